section
-- ===== PART A: goes FIRST, ahead of the names: the tables' words, and 'selects' of the private methods out of them =====
/-- a private method of a class that the tables say can be made, by its rows of tables_1 -/
def lw_okq (q : MethodName × Nat) : Prop := (q.1.cls ≠ "java/lang/invoke/MethodHandle" ∧ q.1.cls ≠ "java/lang/invoke/VarHandle") ∧ Cond.instantiable q.1.cls q.2 ∈ tables_1 ∧ Cond.privateMethod q.1 ∈ tables_1 ∧ Cond.instanceMethod q.1 ∈ tables_1
theorem lw_p0 : lw_okq (⟨"FundBook", "findLoan", "(I)LFundBook$Loan;"⟩, 13) := ⟨⟨by decide +kernel, by decide +kernel⟩, List.mem_of_getElem? (i := 11) (by decide +kernel), List.mem_of_getElem? (i := 95) (by decide +kernel), List.mem_of_getElem? (i := 96) (by decide +kernel)⟩
theorem lw_p1 : lw_okq (⟨"java/lang/Throwable", "fillInStackTrace", "(I)Ljava/lang/Throwable;"⟩, 6) := ⟨⟨by decide +kernel, by decide +kernel⟩, List.mem_of_getElem? (i := 137) (by decide +kernel), List.mem_of_getElem? (i := 135) (by decide +kernel), List.mem_of_getElem? (i := 136) (by decide +kernel)⟩
theorem lw_p2 : lw_okq (⟨"FundBook$Loan", "unpaid", "()I"⟩, 8) := ⟨⟨by decide +kernel, by decide +kernel⟩, List.mem_of_getElem? (i := 169) (by decide +kernel), List.mem_of_getElem? (i := 167) (by decide +kernel), List.mem_of_getElem? (i := 168) (by decide +kernel)⟩
theorem lw_p3 : lw_okq (⟨"FundBook$Loan", "settle", "()V"⟩, 8) := ⟨⟨by decide +kernel, by decide +kernel⟩, List.mem_of_getElem? (i := 169) (by decide +kernel), List.mem_of_getElem? (i := 188) (by decide +kernel), List.mem_of_getElem? (i := 189) (by decide +kernel)⟩
theorem lw_p4 : lw_okq (⟨"FundBook", "trancheAmount", "()I"⟩, 13) := ⟨⟨by decide +kernel, by decide +kernel⟩, List.mem_of_getElem? (i := 11) (by decide +kernel), List.mem_of_getElem? (i := 216) (by decide +kernel), List.mem_of_getElem? (i := 217) (by decide +kernel)⟩
theorem lw_p5 : lw_okq (⟨"FundBook", "coreOf", "(J)I"⟩, 13) := ⟨⟨by decide +kernel, by decide +kernel⟩, List.mem_of_getElem? (i := 11) (by decide +kernel), List.mem_of_getElem? (i := 220) (by decide +kernel), List.mem_of_getElem? (i := 221) (by decide +kernel)⟩
theorem lw_p6 : lw_okq (⟨"FundBook$Replica", "layAll", "(II)V"⟩, 2) := ⟨⟨by decide +kernel, by decide +kernel⟩, List.mem_of_getElem? (i := 21) (by decide +kernel), List.mem_of_getElem? (i := 225) (by decide +kernel), List.mem_of_getElem? (i := 226) (by decide +kernel)⟩
theorem lw_p7 : lw_okq (⟨"FundBook$Replica", "lay", "(III)V"⟩, 2) := ⟨⟨by decide +kernel, by decide +kernel⟩, List.mem_of_getElem? (i := 21) (by decide +kernel), List.mem_of_getElem? (i := 229) (by decide +kernel), List.mem_of_getElem? (i := 230) (by decide +kernel)⟩
theorem lw_p8 : lw_okq (⟨"FundBook", "reckonLoans", "()V"⟩, 13) := ⟨⟨by decide +kernel, by decide +kernel⟩, List.mem_of_getElem? (i := 11) (by decide +kernel), List.mem_of_getElem? (i := 238) (by decide +kernel), List.mem_of_getElem? (i := 239) (by decide +kernel)⟩
theorem lw_p9 : lw_okq (⟨"FundBook", "loanMarginsOfBranch", "(I)I"⟩, 13) := ⟨⟨by decide +kernel, by decide +kernel⟩, List.mem_of_getElem? (i := 11) (by decide +kernel), List.mem_of_getElem? (i := 242) (by decide +kernel), List.mem_of_getElem? (i := 243) (by decide +kernel)⟩
theorem lw_p10 : lw_okq (⟨"FundBook$Loan", "ownMargin", "()I"⟩, 8) := ⟨⟨by decide +kernel, by decide +kernel⟩, List.mem_of_getElem? (i := 169) (by decide +kernel), List.mem_of_getElem? (i := 246) (by decide +kernel), List.mem_of_getElem? (i := 247) (by decide +kernel)⟩
theorem lw_p11 : lw_okq (⟨"FundBook$Loan", "customerInterest", "()I"⟩, 8) := ⟨⟨by decide +kernel, by decide +kernel⟩, List.mem_of_getElem? (i := 169) (by decide +kernel), List.mem_of_getElem? (i := 250) (by decide +kernel), List.mem_of_getElem? (i := 251) (by decide +kernel)⟩
theorem lw_p12 : lw_okq (⟨"FundBook$Loan", "funding", "()I"⟩, 8) := ⟨⟨by decide +kernel, by decide +kernel⟩, List.mem_of_getElem? (i := 169) (by decide +kernel), List.mem_of_getElem? (i := 259) (by decide +kernel), List.mem_of_getElem? (i := 260) (by decide +kernel)⟩
theorem lw_p13 : lw_okq (⟨"FundBook$Loan", "optionCharge", "()I"⟩, 8) := ⟨⟨by decide +kernel, by decide +kernel⟩, List.mem_of_getElem? (i := 169) (by decide +kernel), List.mem_of_getElem? (i := 263) (by decide +kernel), List.mem_of_getElem? (i := 264) (by decide +kernel)⟩
theorem lw_p14 : lw_okq (⟨"FundBook", "loanMarginsOfProduct", "(I)I"⟩, 13) := ⟨⟨by decide +kernel, by decide +kernel⟩, List.mem_of_getElem? (i := 11) (by decide +kernel), List.mem_of_getElem? (i := 267) (by decide +kernel), List.mem_of_getElem? (i := 268) (by decide +kernel)⟩
theorem lw_p15 : lw_okq (⟨"FundBook", "reckonDeposits", "()V"⟩, 13) := ⟨⟨by decide +kernel, by decide +kernel⟩, List.mem_of_getElem? (i := 11) (by decide +kernel), List.mem_of_getElem? (i := 274) (by decide +kernel), List.mem_of_getElem? (i := 275) (by decide +kernel)⟩
def lw_privs_1 : List (MethodName × Nat) := [(⟨"FundBook", "findLoan", "(I)LFundBook$Loan;"⟩, 13), (⟨"java/lang/Throwable", "fillInStackTrace", "(I)Ljava/lang/Throwable;"⟩, 6), (⟨"FundBook$Loan", "unpaid", "()I"⟩, 8), (⟨"FundBook$Loan", "settle", "()V"⟩, 8), (⟨"FundBook", "trancheAmount", "()I"⟩, 13), (⟨"FundBook", "coreOf", "(J)I"⟩, 13), (⟨"FundBook$Replica", "layAll", "(II)V"⟩, 2), (⟨"FundBook$Replica", "lay", "(III)V"⟩, 2), (⟨"FundBook", "reckonLoans", "()V"⟩, 13), (⟨"FundBook", "loanMarginsOfBranch", "(I)I"⟩, 13), (⟨"FundBook$Loan", "ownMargin", "()I"⟩, 8), (⟨"FundBook$Loan", "customerInterest", "()I"⟩, 8), (⟨"FundBook$Loan", "funding", "()I"⟩, 8), (⟨"FundBook$Loan", "optionCharge", "()I"⟩, 8), (⟨"FundBook", "loanMarginsOfProduct", "(I)I"⟩, 13), (⟨"FundBook", "reckonDeposits", "()V"⟩, 13)]
theorem lw_r1 : ∀ q ∈ lw_privs_1, lw_okq q := List.forall_mem_cons.mpr ⟨lw_p0, List.forall_mem_cons.mpr ⟨lw_p1, List.forall_mem_cons.mpr ⟨lw_p2, List.forall_mem_cons.mpr ⟨lw_p3, List.forall_mem_cons.mpr ⟨lw_p4, List.forall_mem_cons.mpr ⟨lw_p5, List.forall_mem_cons.mpr ⟨lw_p6, List.forall_mem_cons.mpr ⟨lw_p7, List.forall_mem_cons.mpr ⟨lw_p8, List.forall_mem_cons.mpr ⟨lw_p9, List.forall_mem_cons.mpr ⟨lw_p10, List.forall_mem_cons.mpr ⟨lw_p11, List.forall_mem_cons.mpr ⟨lw_p12, List.forall_mem_cons.mpr ⟨lw_p13, List.forall_mem_cons.mpr ⟨lw_p14, List.forall_mem_cons.mpr ⟨lw_p15, fun _ h => absurd h List.not_mem_nil⟩⟩⟩⟩⟩⟩⟩⟩⟩⟩⟩⟩⟩⟩⟩⟩
theorem lw_p16 : lw_okq (⟨"FundBook$Replica", "averageRate", "()I"⟩, 2) := ⟨⟨by decide +kernel, by decide +kernel⟩, List.mem_of_getElem? (i := 21) (by decide +kernel), List.mem_of_getElem? (i := 278) (by decide +kernel), List.mem_of_getElem? (i := 279) (by decide +kernel)⟩
theorem lw_p17 : lw_okq (⟨"FundBook", "paidForDeposits", "(II)I"⟩, 13) := ⟨⟨by decide +kernel, by decide +kernel⟩, List.mem_of_getElem? (i := 11) (by decide +kernel), List.mem_of_getElem? (i := 282) (by decide +kernel), List.mem_of_getElem? (i := 283) (by decide +kernel)⟩
theorem lw_p18 : lw_okq (⟨"FundBook", "payParts", "()V"⟩, 13) := ⟨⟨by decide +kernel, by decide +kernel⟩, List.mem_of_getElem? (i := 11) (by decide +kernel), List.mem_of_getElem? (i := 287) (by decide +kernel), List.mem_of_getElem? (i := 288) (by decide +kernel)⟩
theorem lw_p19 : lw_okq (⟨"FundBook$Loan", "payPart", "()V"⟩, 8) := ⟨⟨by decide +kernel, by decide +kernel⟩, List.mem_of_getElem? (i := 169) (by decide +kernel), List.mem_of_getElem? (i := 291) (by decide +kernel), List.mem_of_getElem? (i := 292) (by decide +kernel)⟩
theorem lw_p20 : lw_okq (⟨"FundBook$Loan", "partAhead", "(I)I"⟩, 8) := ⟨⟨by decide +kernel, by decide +kernel⟩, List.mem_of_getElem? (i := 169) (by decide +kernel), List.mem_of_getElem? (i := 348) (by decide +kernel), List.mem_of_getElem? (i := 349) (by decide +kernel)⟩
theorem lw_p21 : lw_okq (⟨"FundBook", "hasEnded", "(I)Z"⟩, 13) := ⟨⟨by decide +kernel, by decide +kernel⟩, List.mem_of_getElem? (i := 11) (by decide +kernel), List.mem_of_getElem? (i := 365) (by decide +kernel), List.mem_of_getElem? (i := 366) (by decide +kernel)⟩
def lw_privs_2 : List (MethodName × Nat) := [(⟨"FundBook$Replica", "averageRate", "()I"⟩, 2), (⟨"FundBook", "paidForDeposits", "(II)I"⟩, 13), (⟨"FundBook", "payParts", "()V"⟩, 13), (⟨"FundBook$Loan", "payPart", "()V"⟩, 8), (⟨"FundBook$Loan", "partAhead", "(I)I"⟩, 8), (⟨"FundBook", "hasEnded", "(I)Z"⟩, 13)]
theorem lw_r2 : ∀ q ∈ lw_privs_2, lw_okq q := List.forall_mem_cons.mpr ⟨lw_p16, List.forall_mem_cons.mpr ⟨lw_p17, List.forall_mem_cons.mpr ⟨lw_p18, List.forall_mem_cons.mpr ⟨lw_p19, List.forall_mem_cons.mpr ⟨lw_p20, List.forall_mem_cons.mpr ⟨lw_p21, fun _ h => absurd h List.not_mem_nil⟩⟩⟩⟩⟩⟩
def lw_privs : List (MethodName × Nat) := lw_privs_1 ++ (lw_privs_2)
def lw_tbl : List Cond := k2_sels lw_privs ++ tables_1
theorem lw_privs_ok : ∀ q ∈ lw_privs, lw_okq q := by
  show ∀ q ∈ lw_privs_1 ++ (lw_privs_2), lw_okq q
  exact List.forall_mem_append.mpr ⟨lw_r1, lw_r2⟩
end
section
/-! ===== BEGIN words of one list among another's, by their places ===== -/
theorem goodIn_r {big : List Cond} (ws : List Cond) (ps : List Nat) (hp : ws = ps.filterMap (fun i => big[i]?)) (h : ws.all goodWord = true) : GoodIn big ws := by
  intro w hw
  have h1 := List.all_eq_true.mp h w hw
  rw [hp] at hw
  obtain ⟨i, -, hi⟩ := List.mem_filterMap.mp hw
  have hm : w ∈ big := by first | exact List.mem_of_getElem? hi | exact List.getElem?_mem hi
  exact ⟨hm, good_of_word h1⟩
theorem goodIn_app {big a b : List Cond} (ha : GoodIn big a) (hb : GoodIn big b) : GoodIn big (a ++ b) := fun w h => (List.mem_append.mp h).elim (ha w) (hb w)
theorem goodIn_ca {big a b : List Cond} {c : Cond} (ha : GoodIn big (c :: a)) (hb : GoodIn big b) : GoodIn big (c :: (a ++ b)) := fun w h => (List.mem_cons.mp h).elim (fun e => ha w (List.mem_cons.mpr (Or.inl e))) (fun h => (List.mem_append.mp h).elim (fun h => ha w (List.mem_cons.mpr (Or.inr h))) (hb w))
theorem goodIn_sub {big ws : List Cond} (hm : ∀ w ∈ ws, w ∈ big) (h : ws.all goodWord = true) : GoodIn big ws := fun w hw => ⟨hm w hw, good_of_word (List.all_eq_true.mp h w hw)⟩
/-! ===== END ===== -/

/-! ===== BEGIN new T[n][m]: the outer array a place, the inner ones among the pooled ===== -/
/-- mine: that the array class over T[] is known, said without the call's arguments -/
def va_AOA (t : FieldType) (U : State) : Prop := (Cond.arrayOver (.array t)).before #[] U = true
theorem va_AOA.use {t : FieldType} {A : Array Value} {U : State} (h : va_AOA t U) : (Cond.arrayOver (.array t)).before A U = true := h
/-- f, but v at every address of l -/
def vr_up {α : Type} (f : Nat → α) (l : List Nat) (v : α) : Nat → α := fun a => if a ∈ l then v else f a
theorem vr_up_in {α : Type} {f : Nat → α} {l : List Nat} {v : α} {a : Nat} (h : a ∈ l) : vr_up f l v a = v := if_pos h
theorem vr_up_ne {α : Type} {f : Nat → α} {l : List Nat} {v : α} {a : Nat} (h : a ∉ l) : vr_up f l v a = f a := if_neg h
theorem vr_rows {L l : List Nat} {f : Nat → va_E} {e : va_E} (h : ∀ a, a ∈ l → a ∉ L) : va_pl L f ++ l.map (fun a => (a, e)) = va_pl (L ++ l) (vr_up f l e) := by
  unfold va_pl
  rw [List.map_append]
  congr 1
  · apply List.map_congr_left
    intro a ha
    rw [vr_up_ne (fun q => h a q ha)]
  · apply List.map_congr_left
    intro a ha
    rw [vr_up_in ha]
theorem vr_lay {X rows : va_W} {x : Nat × va_E} {pl : va_W} {D : va_G} {cl : List vw_C} {H : Heap} (hP : va_P D cl (((X ++ pl) ++ [x]) ++ rows) H) : va_P D cl ((X ++ [x]) ++ (pl ++ rows)) H := by
  rw [List.append_assoc (X ++ pl)] at hP
  have h := va_P.swap hP
  rw [← List.append_assoc X] at h
  have h2 := va_P.swap h
  rw [List.append_assoc (X ++ [x])] at h2
  exact h2
theorem vr_layD {X rows : va_W} {x : Nat × va_E} {pl : va_W} {A : Nat → Prop} (hD : va_D A (((X ++ pl) ++ [x]) ++ rows)) : va_D A ((X ++ [x]) ++ (pl ++ rows)) := by
  rw [List.append_assoc (X ++ pl)] at hD
  have h := va_D.swap hD
  rw [← List.append_assoc X] at h
  have h2 := va_D.swap h
  rw [List.append_assoc (X ++ [x])] at h2
  exact h2
theorem vr_outer (c : ClassId) (N h0 : Nat) : ∀ i : Nat, Jvm.Free.Multi.outerC c N h0 i = arrV c N (fun j => va_rf (if j < i then some (h0 + 1 + j) else none))
  | 0 => by
    show ({ cls := c, slots := Array.replicate N .null, vm := .none } : Cell) = _
    rw [arrV_new]
    refine congrArg (arrV c N) (funext fun j => ?_)
    simp [va_rf]
  | i + 1 => by
    show (Jvm.Free.Multi.outerC c N h0 i).setSlot i (.ref (h0 + 1 + i)) = _
    rw [vr_outer c N h0 i, arrV_store]
    refine congrArg (arrV c N) (funext fun j => ?_)
    by_cases e : j = i
    · subst e
      simp [updV, va_rf]
    · by_cases h : j < i
      · simp [updV, e, h, Nat.lt_succ_of_lt h]
      · simp [updV, e, h, show ¬ j < i + 1 by omega]
section VGM
variable {p : Program} {l : Launch} {e : Env} {R : Room} {s : State} {m : MethodId} {args : Array Value} {below : List Frame} {meth : Method} {c : Code} {H : Heap} {locs : List Loc} {cells slots : Nat} {Q : State → Prop}
variable {cc : ByteArray} {pc : Nat} {ls : Array Slot} {rest : List Value} {D : va_G} {cl : List vw_C} {A : Nat → Prop} {a : Nat} {tys : List (ClassId × FieldType)} {ws : va_W} {H0 : Heap}
theorem va_mna {X : va_W} {L : List Nat} {f : Nat → va_E} {cc : ByteArray} (hexec : p.tables.exec = Jvm.exec) (hb : c.code = cc) {own : String} {index : Nat} {ty : FieldType} {cy : ClassId} (hown : s.vm.findClass own = some m.cls) (hclink : (Cond.classLink own index ("[" ++ (FieldType.array ty).toString)).before args s = true) (hover : va_AOA ty s) (harr : (Cond.arrayClass ty).before args s = true) (hcy : s.vm.findClass (FieldType.array ty).toString = some cy)
    (hK : va_K D cl tys s) (hP : va_P D cl (X ++ va_pl L f) H) (hD : va_D A (X ++ va_pl L f)) (hS : va_S A H0 H locs) (hA : ∀ q, H0.size ≤ q → A q) {n k : Int32} {N' K' : Nat} {z : vp_A} (hn : ¬ n < 0) (hk : ¬ k < 0) (hN : n.toNatClampNeg = N') (hM : k.toNatClampNeg = K')
    (hb1 : N' * 4 ≤ 536870912) (hb2 : K' * componentBytes ty ≤ 536870912) (hb3 : K' ≤ 536870912) (hdf : fits ty (defaultValue ty) = true) (hdd : (defaultValue ty).isDefault = true) (hcells : cells + (1 + N') ≤ R.cells) (hslots : slots + (N' + N' * K') ≤ R.slots) (hz : ∀ c : ClassId, Jvm.Free.Multi.innerC c K' (defaultValue ty) = vp_cell c z) (hdg : decode cc pc = .ok (.multianewarray index 2, 4))
    (kk : ∀ (q : Nat) (r : Nat → Nat) (cA : ClassId) (H1 : Heap), (∀ i j : Nat, i < N' → j < N' → r i = r j → i = j) → (∀ i : Nat, i < N' → r i ∉ L) → va_K D cl (tys ++ [(cA, .array ty)]) s →
      va_P D cl ((X ++ [(q, .inl (cA, N', .inr (.inr (.inr (.inr (fun i => if i < N' then some (r i) else none))))))]) ++ va_pl (L ++ (List.range N').map r) (vr_up f ((List.range N').map r) (.inl (cy, z)))) H1 → va_D A ((X ++ [(q, .inl (cA, N', .inr (.inr (.inr (.inr (fun i => if i < N' then some (r i) else none))))))]) ++ va_pl (L ++ (List.range N').map r) (vr_up f ((List.range N').map r) (.inl (cy, z)))) → va_S A H0 H1 locs →
      W p l e R s m args below meth c H1 locs (cells + 1 + N') (slots + N' + N' * K') Q (F0 m (pc + 4) ls (.ref q :: rest))) : W p l e R s m args below meth c H locs cells slots Q (F0 m pc ls (.int k :: .int n :: rest)) := by
  subst hN
  subst hM
  intro T hT Xs
  obtain ⟨vm₁, cA, comp, -, fA, fC, hO, -, X', step⟩ := Xs.multianewarray2F hexec hown hclink (va_AOA.use hover) harr (g := F0 m pc ls (.int k :: .int n :: rest)) rfl (by rw [hb]; exact hdg) rfl hn hk hb1 hb2 hb3 hdf hdd hcells hslots
  have ec : some cy = some comp := hcy.symm.trans fC
  cases ec
  generalize hF : Jvm.Free.Multi.fill (T.setVm vm₁) cA cy n.toNatClampNeg k.toNatClampNeg (defaultValue ty) n.toNatClampNeg = F at X' step
  have hTh : (T.setVm vm₁).heap = H := hT
  obtain ⟨f1, f2, -, -⟩ := Jvm.Free.Multi.fill_facts (T.setVm vm₁) cA cy n.toNatClampNeg k.toNatClampNeg (defaultValue ty) n.toNatClampNeg
  rw [hF, hTh] at f1 f2
  have hold : ∀ x : Nat, x < H.size → F.heap[x]? = H[x]? := fun x hx => by
    have := Jvm.Free.Multi.fill_old (T.setVm vm₁) cA cy n.toNatClampNeg k.toNatClampNeg (defaultValue ty) (a := x) (by rw [hTh]; exact hx) n.toNatClampNeg
    rw [hF, hTh] at this
    exact this
  have hrow : ∀ j : Nat, j < n.toNatClampNeg → F.heap[H.size + 1 + j]? = some (vp_cell cy z) := fun j hj => by
    have := Jvm.Free.Multi.fill_inner (T.setVm vm₁) cA cy n.toNatClampNeg k.toNatClampNeg (defaultValue ty) n.toNatClampNeg j hj
    rw [hF, hTh, hz] at this
    exact this
  have hout : Jvm.Free.Multi.outerC cA n.toNatClampNeg H.size n.toNatClampNeg = vp_cell cA (n.toNatClampNeg, .inr (.inr (.inr (.inr (fun i => if i < n.toNatClampNeg then some (H.size + 1 + i) else none))))) := by
    rw [vp_cell_q]
    exact vr_outer cA n.toNatClampNeg H.size n.toNatClampNeg
  rw [hout] at f2
  have hlt : ∀ a, a ∈ L → a < H.size := fun a ha => by
    obtain ⟨k9, hk9⟩ := va_pl_get (X := X) (f := f) ha
    exact (hP k9 _ hk9).lt
  have hnl : ∀ i : Nat, i < n.toNatClampNeg → H.size + 1 + i ∉ L := fun i _ h => by
    have := hlt _ h
    omega
  have hnm : ∀ a, a ∈ (List.range n.toNatClampNeg).map (fun i => H.size + 1 + i) → a ∉ L := fun a ha h => by
    obtain ⟨i, -, rfl⟩ := List.mem_map.mp ha
    have := hlt _ h
    omega
  have hP0 : va_P D cl (X ++ va_pl L f) F.heap := hP.kept (fun k9 x hx => hold x.1 ((hP k9 x hx).lt))
  have hP1 : va_P D cl ((X ++ va_pl L f) ++ [(H.size, .inl (cA, n.toNatClampNeg, .inr (.inr (.inr (.inr (fun i => if i < n.toNatClampNeg then some (H.size + 1 + i) else none))))))]) F.heap := hP0.app (fun k9 x hx => by
    have h0 : k9 < 1 := (List.getElem?_eq_some_iff.mp hx).1
    rw [show k9 = 0 by omega] at hx
    cases hx
    exact f2)
  have hP2 : va_P D cl (((X ++ va_pl L f) ++ [(H.size, .inl (cA, n.toNatClampNeg, .inr (.inr (.inr (.inr (fun i => if i < n.toNatClampNeg then some (H.size + 1 + i) else none))))))]) ++ ((List.range n.toNatClampNeg).map (fun i => H.size + 1 + i)).map (fun a => (a, .inl (cy, z)))) F.heap := hP1.app (fun k9 x hx => by
    obtain ⟨a, ha, rfl⟩ := List.mem_map.mp (List.mem_of_getElem? hx)
    obtain ⟨i, hi, rfl⟩ := List.mem_map.mp ha
    exact hrow i (List.mem_range.mp hi))
  have hD2 : va_D A (((X ++ va_pl L f) ++ [(H.size, .inl (cA, n.toNatClampNeg, .inr (.inr (.inr (.inr (fun i => if i < n.toNatClampNeg then some (H.size + 1 + i) else none))))))]) ++ ((List.range n.toNatClampNeg).map (fun i => H.size + 1 + i)).map (fun a => (a, .inl (cy, z)))) := by
    have hD1 := hD.push (e := .inl (cA, n.toNatClampNeg, .inr (.inr (.inr (.inr (fun i => if i < n.toNatClampNeg then some (H.size + 1 + i) else none)))))) hP rfl (hA _ hS.1)
    generalize hW1 : (X ++ va_pl L f) ++ [(H.size, .inl (cA, n.toNatClampNeg, .inr (.inr (.inr (.inr (fun i => if i < n.toNatClampNeg then some (H.size + 1 + i) else none))))))] = W1 at hD1 hP1 ⊢
    have hle : ∀ (k9 : Nat) (x : Nat × va_E), W1[k9]? = some x → x.1 ≤ H.size := fun k9 x hx => by
      rw [← hW1] at hx
      by_cases hl : k9 < (X ++ va_pl L f).length
      · rw [List.getElem?_append_left hl] at hx
        exact Nat.le_of_lt ((hP k9 x hx).lt)
      · rw [List.getElem?_append_right (by omega)] at hx
        have h0 : k9 - (X ++ va_pl L f).length < 1 := (List.getElem?_eq_some_iff.mp hx).1
        rw [show k9 - (X ++ va_pl L f).length = 0 by omega] at hx
        cases hx
        exact Nat.le_refl _
    have hr : ∀ (k9 : Nat) (x : Nat × va_E), (((List.range n.toNatClampNeg).map (fun i => H.size + 1 + i)).map (fun a => ((a, .inl (cy, z)) : Nat × va_E)))[k9]? = some x → x.1 = H.size + 1 + k9 := fun k9 x hx => by
      rw [List.getElem?_map, List.getElem?_map] at hx
      by_cases h9 : k9 < n.toNatClampNeg
      · rw [List.getElem?_range h9] at hx
        cases hx
        rfl
      · have hn0 : (List.range n.toNatClampNeg)[k9]? = none := List.getElem?_eq_none (by rw [List.length_range]; omega)
        rw [hn0] at hx
        cases hx
    refine ⟨fun i j x y hi hj hxy => ?_, fun k9 x hx => ?_⟩
    · by_cases h1 : i < W1.length <;> by_cases h2 : j < W1.length
      · rw [List.getElem?_append_left h1] at hi
        rw [List.getElem?_append_left h2] at hj
        exact hD1.1 i j x y hi hj hxy
      · rw [List.getElem?_append_left h1] at hi
        rw [List.getElem?_append_right (by omega)] at hj
        have := hle _ _ hi
        have := hr _ _ hj
        omega
      · rw [List.getElem?_append_right (by omega)] at hi
        rw [List.getElem?_append_left h2] at hj
        have := hle _ _ hj
        have := hr _ _ hi
        omega
      · rw [List.getElem?_append_right (by omega)] at hi hj
        have := hr _ _ hi
        have := hr _ _ hj
        omega
    · by_cases h1 : k9 < W1.length
      · rw [List.getElem?_append_left h1] at hx
        exact hD1.2 k9 x hx
      · rw [List.getElem?_append_right (by omega)] at hx
        have := hr _ _ hx
        exact hA _ (by have := hS.1; omega)
  have hAr : ArrOfT s cA (.array ty) := fun N9 z9 => by
    obtain ⟨-, k9, hk9, cm9, hkk9⟩ := (hO 0 0 0).1
    exact ⟨(fun q hq => by cases hq), k9, hk9, cm9, hkk9⟩
  have hK2 : va_K D cl (tys ++ [(cA, .array ty)]) s := ⟨hK.1, fun k9 x hx => by
    by_cases hl : k9 < tys.length
    · rw [List.getElem?_append_left hl] at hx
      exact hK.2 k9 x hx
    · rw [List.getElem?_append_right (by omega)] at hx
      have h0 : k9 - tys.length < 1 := (List.getElem?_eq_some_iff.mp hx).1
      rw [show k9 - tys.length = 0 by omega] at hx
      cases hx
      exact ⟨hAr, fA⟩⟩
  obtain ⟨t, a1, b1⟩ := kk H.size (fun i => H.size + 1 + i) cA F.heap (fun i j _ _ h => by have h9 : H.size + 1 + i = H.size + 1 + j := h; omega) hnl hK2 (by rw [← vr_rows hnm]; exact vr_lay hP2) (by rw [← vr_rows hnm]; exact vr_layD hD2) ⟨by rw [f1]; have := hS.1; omega, fun x h1 h2 => (hold x (Nat.lt_of_lt_of_le h1 hS.1)).trans (hS.2.1 x h1 h2), hS.2.2⟩ F rfl X'
  refine ⟨t, step t ?_, b1⟩
  have e : T.heap.size = H.size := by rw [hT]
  rw [e]
  exact a1
end VGM
/-! ===== END ===== -/

/-! ===== BEGIN exceptions that leave a method, and their catching by the caller (launches without stack traces) ===== -/
section VXA
/-! The laws vx_back, vx_callV, vx_callS, vx_callSW, vx_throw0, vx_throwS follow proofs of the library, with one case more: JvmDerived/Free/Laws.lean (Back.of_free), Shelf42/LK1.lean (callV, callS), Shelf/KitTraced.lean (throwNew0V, throwNewS). -/
/-- where a method has thrown q: the class by its name, the cell, what was written, the world -/
def vx_T (XC : String → State → State → Prop) (st : State) (q : Addr) (t : State) (mc ms : Nat) (free : Addr → Prop) : Prop :=
  ∃ (E : String) (ce : Cell) (L : List Loc), XC E st t ∧ t.heap[q]? = some ce ∧ ce.vm = .none ∧ st.vm.findClass E = some ce.cls ∧ st.WarmedH t.vm ∧ st.sameButNew ({ t with vm := st.vm } : State) L mc ms ∧ ∀ z ∈ L, free z.base
def vx_Q (Qc : Array Value → State → Outcome → State → Prop) (XC : String → State → State → Prop) (mc ms : Nat) (free : Addr → Prop) : Array Value → State → Outcome → State → Prop := fun a st o t =>
  (Qc a st o t ∧ ∃ L, FrameEnd st o t L mc ms ∧ ∀ q ∈ L, free q.base) ∨ ∃ q, o = .threw q ∧ vx_T XC st q t mc ms free
/-- a callee that returns or throws -/
def vx_Met (l : Launch) (y : MethodName) (ws : List Cond) (rm : Room) (Pc : Array Value → State → Prop) (Qc : Array Value → State → Outcome → State → Prop) (XC : String → State → State → Prop) (mc ms : Nat) (free : Addr → Prop) : Prop :=
  MetFree l y (headSpec ws rm) Pc (fun _ _ _ _ _ => True) (vx_Q Qc XC mc ms free)
def vx_Post (XC : String → State → State → Prop) (mc ms : Nat) (free : Addr → Prop) : Pt → Array Value → Addr → Pt → Prop := fun A a q B =>
  ∃ (g : JFrame) (mk : MethodId) (t : State) (L : List Loc) (E : String) (ce : Cell), B.U.heap = t.heap ∧ B.U.vm = t.vm ∧ XC E (A.U.calling g mk a) t ∧ t.heap[q]? = some ce ∧ ce.vm = .none ∧ A.U.vm.findClass E = some ce.cls ∧ B.locs = A.locs ++ L ∧ (∀ z ∈ L, free z.base) ∧ B.cells = A.cells + mc ∧ B.slots = A.slots + ms
def vx_Back (l : Launch) (R : Room) (p : Program) (e : Env) (below : List Frame) (s : State) (sargs : Array Value) (y : MethodName) (len W9 : Nat)
    (Pre : Pt → Array Value → Prop) (Post : Pt → Array Value → Option Value → Pt → Prop) (PostX : Pt → Array Value → Addr → Pt → Prop) : Prop :=
  ∀ (m : MethodId) (meth : Method) (c : Code) (A : Pt) (g : JFrame) (ig : Instr) (mk : MethodId) (a : Array Value),
    Stand p l e R s m sargs below meth c A.U A.locs A.cells A.slots → g.method = m → g.locals.size = c.maxLocals → decode c.code g.pc = .ok (ig, len) →
    2 * g.monitorRoom + (g.stack.map fun v => v.category).sum ≤ W9 → A.U.methodNamed? y = some mk → Pre A a →
    (∃ (v : Option Value) (B : Pt), Stand p l e R s m sargs below meth c B.U B.locs B.cells B.slots ∧ Post A a v B ∧
      Steps p.tables e below (doInvoke e (A.U.setTop g) [] mk a).1 (B.U.setTop { g with pc := g.pc + len, stack := v.toList ++ g.stack })) ∨
    (∃ (q : Addr) (B : Pt), Stand p l e R s m sargs below meth c B.U B.locs B.cells B.slots ∧ PostX A a q B ∧
      Steps p.tables e below (doInvoke e (A.U.setTop g) [] mk a).1 ((B.U.setTop g).pushFrame (.throwing q)))
section Payer
variable {l : Launch} {R : Room} {p : Program} {e : Env} {below : List Frame} {s : State} {sargs : Array Value} {y : MethodName} {len W9 : Nat}
theorem vx_back {ws : List Cond} {rm : Room} {Pc : Array Value → State → Prop} {Qc : Array Value → State → Outcome → State → Prop} {XC : String → State → State → Prop} {mc ms : Nat} {free : Addr → Prop} {bytes : ByteArray} {maxL : Nat} {ret : Option FieldType}
    (hM : vx_Met l y ws rm Pc Qc XC mc ms free) (hblind : FrameBlind Pc) (hrc : rm.cells = mc) (hrs : rm.slots = ms)
    (hframes : rm.frames + 1 ≤ R.frames) (hlocals : W9 + (maxL + 11) + rm.locals ≤ R.locals)
    (hws : ∀ w ∈ ws, ∀ a' U, s.WarmedH U.vm → w.before a' U = true) (hcode : Cond.code y bytes maxL ret ∈ ws) (hinit : ∀ a' U, s.WarmedH U.vm → (Cond.initialized y.cls).before a' U = true) :
    vx_Back l R p e below s sargs y len W9 (PreOf R mc ms Pc) (PostOf Qc mc ms free) (vx_Post XC mc ms free) := by
  intro m meth c A g ig mk a X hg hsize hdg hW hn hp
  have h1 : (headSpec ws rm).pre.before a A.U = true := atoms_intro fun w hw => hws w hw _ _ X.warmed
  have h2 : (Cond.code y bytes maxL ret).before a A.U = true := hws _ hcode _ _ X.warmed
  have h3 : (Cond.initialized y.cls).before a A.U = true := hinit _ _ X.warmed
  have h4 : A.cells + (headSpec ws rm).room.cells ≤ R.cells := by rw [show (headSpec ws rm).room.cells = mc from hrc]; exact hp.1
  have h5 : A.slots + (headSpec ws rm).room.slots ≤ R.slots := by rw [show (headSpec ws rm).room.slots = ms from hrs]; exact hp.2.1
  have hPc : Pc a (A.U.calling g mk a) := hblind _ _ _ _ hp.2.2
  obtain ⟨U, Ls, c0, s0⟩ := A
  dsimp only [Pt.U, Pt.locs, Pt.cells, Pt.slots] at h1 h2 h3 h4 h5 X hn hPc ⊢
  obtain ⟨methY, cY, hmY, hcY, -, hlY, -, -, -, -⟩ := Cond.code_spec hn h2
  obtain ⟨kY, hkY, -⟩ := className_of_methodNamed hn
  have hinitY : kY.init = .initialized := Cond.initialized_spec (findClass_of_methodNamed hn) hkY h3
  have h : At U g.method c below := by rw [hg]; exact X.here
  have hlocals9 : W9 + (maxL + 11) + (headSpec ws rm).room.locals ≤ R.locals := hlocals
  have happ : (headSpec ws rm).appliesLoose y e.platform (U.calling g mk a) = true :=
    Spec.appliesLoose_calling (g := g) h hdg hn hkY hinitY
      (X.room_calling (g := g) (R' := (headSpec ws rm).room) hsize hmY hcY hframes (by rw [hlY]; omega) h4 h5) h1
  obtain ⟨mid, hmid⟩ := h.above
  have hfr : (U.setTop g).frames = (.java g :: mid) ++ below := by rw [State.frames_setTop' g h.top, hmid]; rfl
  obtain ⟨o, s₂, hsteps, -, hend, hq⟩ := Steps.callFree hM p X.admits X.cas X.clock (acts := []) hfr happ hPc trivial
  have hq' : vx_Q Qc XC mc ms free a (U.calling g mk a) o s₂ := hq
  rw [State.frames_setTop' g h.top] at hend
  obtain ⟨g₀, hg0⟩ := Option.isSome_iff_exists.mp h.top
  obtain ⟨r, hr⟩ := State.topJava?_eq_some.mp hg0
  have hr' : (({ U with heap := s₂.heap, slotsUsed := s₂.slotsUsed } : State).setVm s₂.vm).frames = .java g₀ :: r := hr
  rcases hq' with ⟨hqc, L, hfe, hL⟩ | ⟨q, rfl, E, ce, L, hx, hce, hcv, hcl, hW₂, hsm, hL⟩
  · obtain ⟨⟨v, rfl⟩, hW₂, e2, q2, q3, q4, q5, q6⟩ := id hfe
    have e3 : s₂ = ({ (U.calling g mk a).setFrames s₂.frames with heap := s₂.heap, slotsUsed := s₂.slotsUsed } : State).setVm s₂.vm := by
      have : s₂ = ({ s₂ with vm := (U.calling g mk a).vm } : State).setVm s₂.vm := rfl
      rw [e2] at this
      exact this
    obtain ⟨c₂, i₂, len₂, hc₂, hd₂, hf₂⟩ := hend
    have hW' : U.WarmedH s₂.vm := hW₂
    have hcc : c₂ = c := by
      have h1 : s₂.code? g.method = U.code? g.method := by
        rw [State.code?_eq, State.code?_eq, hW'.alike.method?]
      exact Option.some.inj (hc₂.symm.trans (h1.trans h.code))
    subst hcc
    have hlen : len₂ = len := by rw [hdg] at hd₂; cases hd₂; rfl
    subst hlen
    have hs₂ : s₂ = (({ U with heap := s₂.heap, slotsUsed := s₂.slotsUsed } : State).setVm s₂.vm).setTop { g with pc := g.pc + len₂, stack := v.toList ++ g.stack } := by
      refine e3.trans ?_
      rw [hf₂, State.calling_eq h.top, State.setFrames_setFrames, State.setTop_of_frames _ hr', hr]
      rfl
    have hsame : U.sameButNew ({ U with heap := s₂.heap, slotsUsed := s₂.slotsUsed } : State) L mc ms := by
      refine ⟨?_, q2, q3, q4, q5, q6⟩
      obtain ⟨t, ht, -⟩ := State.frames_cons hr
      show ({ U with heap := s₂.heap, slotsUsed := s₂.slotsUsed } : State) = { U.setFrames U.frames with heap := s₂.heap, slotsUsed := s₂.slotsUsed }
      rw [State.setFrames_self ht]
    subst hg
    refine Or.inl ⟨v, ⟨(({ U with heap := s₂.heap, slotsUsed := s₂.slotsUsed } : State).setVm s₂.vm), Ls ++ L, c0 + mc, s0 + ms⟩,
      ⟨X.admits, X.cas, X.clock, X.frames, X.room, X.hears, X.method, X.code, (X.here.setHeapUsed s₂.heap s₂.slotsUsed).setVm hW'.alike, X.tail, State.WarmedH.trans X.warmed hW', X.limits, X.bytes, X.same.trans (hsame.setVm s.vm)⟩,
      ⟨g, mk, s₂, L, rfl, rfl, hqc, rfl, hL, rfl, rfl⟩, ?_⟩
    show Steps p.tables e below _ ((({ U with heap := s₂.heap, slotsUsed := s₂.slotsUsed } : State).setVm s₂.vm).setTop { g with pc := g.pc + len₂, stack := v.toList ++ g.stack })
    rw [← hs₂]
    exact hsteps
  · obtain ⟨e2, q2, q3, q4, q5, q6⟩ := id hsm
    have e3 : s₂ = ({ (U.calling g mk a).setFrames s₂.frames with heap := s₂.heap, slotsUsed := s₂.slotsUsed } : State).setVm s₂.vm := by
      have : s₂ = ({ s₂ with vm := (U.calling g mk a).vm } : State).setVm s₂.vm := rfl
      rw [e2] at this
      exact this
    have hf₂ : s₂.frames = .throwing q :: .java g :: U.frames.tail := hend
    have hW' : U.WarmedH s₂.vm := hW₂
    have hs₂ : s₂ = ((({ U with heap := s₂.heap, slotsUsed := s₂.slotsUsed } : State).setVm s₂.vm).setTop g).pushFrame (.throwing q) := by
      refine e3.trans ?_
      rw [hf₂, State.calling_eq h.top, State.setFrames_setFrames, State.pushFrame, State.frames_setTop _ hr', State.setTop_of_frames _ hr', State.setFrames_setFrames, hr]
      rfl
    have hsame : U.sameButNew ({ U with heap := s₂.heap, slotsUsed := s₂.slotsUsed } : State) L mc ms := by
      refine ⟨?_, q2, q3, q4, q5, q6⟩
      obtain ⟨t, ht, -⟩ := State.frames_cons hr
      show ({ U with heap := s₂.heap, slotsUsed := s₂.slotsUsed } : State) = { U.setFrames U.frames with heap := s₂.heap, slotsUsed := s₂.slotsUsed }
      rw [State.setFrames_self ht]
    subst hg
    refine Or.inr ⟨q, ⟨(({ U with heap := s₂.heap, slotsUsed := s₂.slotsUsed } : State).setVm s₂.vm), Ls ++ L, c0 + mc, s0 + ms⟩,
      ⟨X.admits, X.cas, X.clock, X.frames, X.room, X.hears, X.method, X.code, (X.here.setHeapUsed s₂.heap s₂.slotsUsed).setVm hW'.alike, X.tail, State.WarmedH.trans X.warmed hW', X.limits, X.bytes, X.same.trans (hsame.setVm s.vm)⟩,
      ⟨g, mk, s₂, L, E, ce, rfl, rfl, hx, hce, hcv, hcl, rfl, hL, rfl, rfl⟩, ?_⟩
    show Steps p.tables e below _ (((({ U with heap := s₂.heap, slotsUsed := s₂.slotsUsed } : State).setVm s₂.vm).setTop g).pushFrame (.throwing q))
    rw [← hs₂]
    exact hsteps
end Payer
section Calls
variable {p : Program} {l : Launch} {e : Env} {R : Room} {s : State} {m : MethodId} {args : Array Value} {below : List Frame} {meth : Method} {c : Code} {T : State} {locs : List Loc} {cells slots : Nat}
theorem vx_callV (X : Stand p l e R s m args below meth c T locs cells slots) (hexec : p.tables.exec = Jvm.exec) {own C : String} {index : Nat} {y : MethodName} {bytes : ByteArray} {maxL : Nat} {ret : Option FieldType}
    (hown : s.vm.findClass own = some m.cls) (hlink : (Cond.methodLink own index y).before args s = true) (hinst : (Cond.instanceMethod y).before args s = true) (hsel : (Cond.selects C y y).before args s = true)
    (hcode : (Cond.code y bytes maxL ret).before args s = true) (hy : y.cls ≠ "java/lang/invoke/MethodHandle" ∧ y.cls ≠ "java/lang/invoke/VarHandle")
    {W9 : Nat} {Pre : Pt → Array Value → Prop} {Post : Pt → Array Value → Option Value → Pt → Prop} {PostX : Pt → Array Value → Addr → Pt → Prop} (hK : vx_Back l R p e below s args y 3 W9 Pre Post PostX)
    {b : Addr} {cellB : Cell} (hcell : T.heap[b]? = some cellB) (hobj : cellB.vm.isStatics = false) (hcls : s.vm.findClass C = some cellB.cls)
    {g : JFrame} (hg : g.method = m) (hsize : g.locals.size = c.maxLocals) {argsL rest : List Value} (hlen : ∀ sig, parseMethodDescriptor y.desc = some sig → argsL.length = sig.parameters.length)
    (hstack : g.stack = argsL.reverse ++ .ref b :: rest) (hW : 2 * g.monitorRoom + (rest.map fun v => v.category).sum ≤ W9) (hdg : decode c.code g.pc = .ok (.invokevirtual index, 3))
    (hpre : ∀ vm₁, s.WarmedH vm₁ → Pre ⟨T.setVm vm₁, locs, cells, slots⟩ (Value.ref b :: argsL).toArray) :
    (∃ (v : Option Value) (vm₁ : Vm) (B : Pt), s.WarmedH vm₁ ∧ Stand p l e R s m args below meth c B.U B.locs B.cells B.slots ∧ Post ⟨T.setVm vm₁, locs, cells, slots⟩ (Value.ref b :: argsL).toArray v B ∧
      ∀ target, Steps p.tables e below (B.U.setTop { g with pc := g.pc + 3, stack := v.toList ++ rest }) target → Steps p.tables e below (T.setTop g) target) ∨
    (∃ (q : Addr) (vm₁ : Vm) (B : Pt), s.WarmedH vm₁ ∧ Stand p l e R s m args below meth c B.U B.locs B.cells B.slots ∧ PostX ⟨T.setVm vm₁, locs, cells, slots⟩ (Value.ref b :: argsL).toArray q B ∧
      Steps p.tables e below (T.setTop g) ((B.U.setTop { g with stack := rest }).pushFrame (.throwing q))) := by
  obtain ⟨mk, methM, hnamed, hmethM, hstM, habM⟩ := Cond.instanceMethod_spec hinst
  obtain ⟨methM', cM, hmethM', -, -, -, -, -, -, hsigM⟩ := Cond.code_spec hnamed hcode
  cases hmethM.symm.trans hmethM'
  obtain ⟨c2, r2, m2, q1, q2, q3, q4, kP, hkP, hkPi⟩ := Cond.selects_spec hsel
  cases hcls.symm.trans q1
  cases (State.methodFound?_of_named hnamed hy).symm.trans q2
  cases hnamed.symm.trans q3
  have hselP : selectMethod e.platform s.vm cellB.cls mk = .method mk := by rw [Launch.admits_selectMethod X.admits]; exact q4
  obtain ⟨vm₁, X₁, hstep₁⟩ := X.invokevirtual hexec hown hlink hnamed hmethM hstM hkP hkPi hy (a := b) (cell := cellB) hcell
    (fun z h => by rw [h] at hobj; cases hobj) hselP hmethM habM hkP hkPi (g := g) hg (argsL := argsL) (rest := rest) (hlen _ hsigM) hstack hdg
  rcases hK m meth c ⟨T.setVm vm₁, locs, cells, slots⟩ { g with stack := rest } (.invokevirtual index) mk (Value.ref b :: argsL).toArray X₁ hg hsize hdg hW (X₁.named hnamed) (hpre vm₁ X₁.warmed) with ⟨v, B, X', hpost, hsteps⟩ | ⟨q, B, X', hpost, hsteps⟩
  · exact Or.inl ⟨v, vm₁, B, X₁.warmed, X', hpost, fun target h => hstep₁ _ fun acts => by rw [doInvoke_state]; exact hsteps.trans h⟩
  · exact Or.inr ⟨q, vm₁, B, X₁.warmed, X', hpost, hstep₁ _ fun acts => by rw [doInvoke_state]; exact hsteps⟩
theorem vx_callS (X : Stand p l e R s m args below meth c T locs cells slots) (hexec : p.tables.exec = Jvm.exec) {own : String} {index : Nat} {y : MethodName} {bytes : ByteArray} {maxL : Nat} {ret : Option FieldType}
    (hown : s.vm.findClass own = some m.cls) (hlink : (Cond.methodLink own index y).before args s = true) (hstat : (Cond.static y).before args s = true) (hinit : (Cond.initialized y.cls).before args s = true)
    (hcode : (Cond.code y bytes maxL ret).before args s = true) (hy : y.cls ≠ "java/lang/invoke/MethodHandle" ∧ y.cls ≠ "java/lang/invoke/VarHandle")
    {W9 : Nat} {Pre : Pt → Array Value → Prop} {Post : Pt → Array Value → Option Value → Pt → Prop} {PostX : Pt → Array Value → Addr → Pt → Prop} (hK : vx_Back l R p e below s args y 3 W9 Pre Post PostX)
    {g : JFrame} (hg : g.method = m) (hsize : g.locals.size = c.maxLocals) {argsL rest : List Value} (hlen : ∀ sig, parseMethodDescriptor y.desc = some sig → argsL.length = sig.parameters.length)
    (hstack : g.stack = argsL.reverse ++ rest) (hW : 2 * g.monitorRoom + (rest.map fun v => v.category).sum ≤ W9) (hdg : decode c.code g.pc = .ok (.invokestatic index, 3))
    (hpre : ∀ vm₁, s.WarmedH vm₁ → Pre ⟨T.setVm vm₁, locs, cells, slots⟩ argsL.toArray) :
    (∃ (v : Option Value) (vm₁ : Vm) (B : Pt), s.WarmedH vm₁ ∧ Stand p l e R s m args below meth c B.U B.locs B.cells B.slots ∧ Post ⟨T.setVm vm₁, locs, cells, slots⟩ argsL.toArray v B ∧
      ∀ target, Steps p.tables e below (B.U.setTop { g with pc := g.pc + 3, stack := v.toList ++ rest }) target → Steps p.tables e below (T.setTop g) target) ∨
    (∃ (q : Addr) (vm₁ : Vm) (B : Pt), s.WarmedH vm₁ ∧ Stand p l e R s m args below meth c B.U B.locs B.cells B.slots ∧ PostX ⟨T.setVm vm₁, locs, cells, slots⟩ argsL.toArray q B ∧
      Steps p.tables e below (T.setTop g) ((B.U.setTop { g with stack := rest }).pushFrame (.throwing q))) := by
  obtain ⟨mk, hnamed⟩ := Cond.code_named hcode
  obtain ⟨methM, cM, hmethM, -, -, -, -, -, -, hsigM⟩ := Cond.code_spec hnamed hcode
  have hstatic : methM.isStatic = true := Cond.static_spec hnamed hmethM hstat
  obtain ⟨kP, hkP, -⟩ := className_of_methodNamed hnamed
  have hinitP : kP.init = .initialized := Cond.initialized_spec (findClass_of_methodNamed hnamed) hkP hinit
  obtain ⟨vm₁, X₁, hstep₁⟩ := X.invokestatic hexec hown hlink hnamed hmethM hstatic hkP hinitP hy (g := g) hg (argsL := argsL) (rest := rest) (hlen _ hsigM) hstack hdg
  rcases hK m meth c ⟨T.setVm vm₁, locs, cells, slots⟩ { g with stack := rest } (.invokestatic index) mk argsL.toArray X₁ hg hsize hdg hW (X₁.named hnamed) (hpre vm₁ X₁.warmed) with ⟨v, B, X', hpost, hsteps⟩ | ⟨q, B, X', hpost, hsteps⟩
  · exact Or.inl ⟨v, vm₁, B, X₁.warmed, X', hpost, fun target h => hstep₁ _ fun acts => by rw [doInvoke_state]; exact hsteps.trans h⟩
  · exact Or.inr ⟨q, vm₁, B, X₁.warmed, X', hpost, hstep₁ _ fun acts => by rw [doInvoke_state]; exact hsteps⟩
end Calls
theorem vx_cls {s : State} {T : State} {vm₁ : Vm} {E : String} {k : ClassId} (hW : s.WarmedH vm₁) (h : (T.setVm vm₁).vm.findClass E = some k) : s.vm.findClass E = some k := by
  have h1 : vm₁.findClass E = some k := h
  rw [hW.alike.findClass] at h1
  exact h1
/-- the method's frame g, with q thrown over it -/
def vx_W (p : Program) (l : Launch) (e : Env) (R : Room) (s : State) (m : MethodId) (args : Array Value) (below : List Frame) (meth : Method) (c : Code) (H : Heap) (locs : List Loc) (cells slots : Nat) (Q : State → Prop) (g : JFrame) (q : Addr) : Prop :=
  ∀ T : State, T.heap = H → Stand p l e R s m args below meth c T locs cells slots → ∃ t, Steps p.tables e below ((T.setTop g).pushFrame (.throwing q)) t ∧ Q t
def vx_Run (p : Program) (l : Launch) (e : Env) (R : Room) (s : State) (m : MethodId) (args : Array Value) (below : List Frame) (meth : Method) (c : Code) (H : Heap) (locs : List Loc) (cells slots mc ms : Nat) (g : JFrame) (rest : List Value) (Qa : State → Outcome → State → Prop) (XC : String → State → State → Prop) (free : Addr → Prop) : Prop :=
  ∀ T : State, T.heap = H → Stand p l e R s m args below meth c T locs cells slots →
    (∃ (v : Option Value) (st₀ t T' : State) (L : List Loc), st₀.heap = H ∧ Stand p l e R s m args below meth c T' (locs ++ L) (cells + mc) (slots + ms) ∧ (∀ q ∈ L, free q.base) ∧ T'.heap = t.heap ∧ T'.vm = t.vm ∧ Qa st₀ (.returned v) t ∧
      Goes p e below T g T' { g with pc := g.pc + 3, stack := v.toList ++ rest }) ∨
    (∃ (q : Addr) (st₀ t T' : State) (L : List Loc) (E : String) (ce : Cell), st₀.heap = H ∧ Stand p l e R s m args below meth c T' (locs ++ L) (cells + mc) (slots + ms) ∧ (∀ z ∈ L, free z.base) ∧ T'.heap = t.heap ∧ T'.vm = t.vm ∧ XC E st₀ t ∧ t.heap[q]? = some ce ∧ ce.vm = .none ∧ s.vm.findClass E = some ce.cls ∧
      Steps p.tables e below (T.setTop g) ((T'.setTop { g with stack := rest }).pushFrame (.throwing q)))
def vx_X {S : Type} (px : S → Prop) (B : String → S → State → Prop) (A : Nat → Prop) : String → State → State → Prop := fun E st t => ∃ u : S, px u ∧ B E u t ∧ va_F A st t
section Runs
variable {p : Program} {l : Launch} {e : Env} {R : Room} {s : State} {m : MethodId} {args : Array Value} {below : List Frame} {meth : Method} {c : Code} {H : Heap} {locs : List Loc} {cells slots : Nat}
variable {y : MethodName} {bytes cc : ByteArray} {maxL nL mc ms n index : Nat} {ret : Option FieldType} {ws : List Cond} {rm : Room} {Pc : Array Value → State → Prop} {Qc : Array Value → State → Outcome → State → Prop} {XC : String → State → State → Prop} {free : Addr → Prop} {Ts : List Cond} {own C : String} {b : Addr} {As rest : List Value} {g : JFrame}
theorem vx_callBack (cb : CallB R s args own index y bytes maxL ret ws rm mc ms n) (hM : vx_Met l y ws rm Pc Qc XC mc ms free) (hbl : FrameBlind Pc) : vx_Back l R p e below s args y 3 8 (PreOf R mc ms Pc) (PostOf Qc mc ms free) (vx_Post XC mc ms free) := by
  obtain ⟨hrc, hrs, hfr, hlo, hws, hcw, -, hini, -⟩ := cb
  exact vx_back (bytes := bytes) (maxL := maxL) (ret := ret) hM hbl hrc hrs hfr hlo hws hcw (fun a' U hW => word_at hW (Or.inl (by first | rfl | simp [Cond.onTables, Cond.keeps, Cond.steady])) hini)
theorem vx_runV (S : CallFix p m c cc nL s args Ts own) (hM : vx_Met l y ws rm Pc Qc XC mc ms free) (cw : CallW R s args own C index y bytes maxL ret ws rm mc ms n) (hp : PreV s H C b Pc As)
    (hg : g.method = m) (hn : As.length = n) (hsize : g.locals.size = nL) (hstack : g.stack = As.reverse ++ .ref b :: rest) (hW : 2 * g.monitorRoom + (rest.map fun v => v.category).sum ≤ 8) (hdg : decode cc g.pc = .ok (.invokevirtual index, 3)) (hf : cells + mc ≤ R.cells ∧ slots + ms ≤ R.slots) :
    vx_Run p l e R s m args below meth c H locs cells slots mc ms g rest (Qc (Value.ref b :: As).toArray) XC free := by
  have hK : vx_Back l R p e below s args y 3 8 (PreOf R mc ms Pc) (PostOf Qc mc ms free) (vx_Post XC mc ms free) := vx_callBack cw.1 hM hp.1
  obtain ⟨⟨-, -, -, -, -, -, hcode, -, hy, hlen, hl⟩, hin, hse⟩ := cw
  obtain ⟨hx, hb, hml, ho, -⟩ := S
  obtain ⟨-, ⟨cellB, hcB, hoB, hclB⟩, hPc⟩ := hp
  intro T hT X
  rcases vx_callV X hx (C := C) (bytes := bytes) (maxL := maxL) (ret := ret) ho hl hin hse hcode hy hK (by rw [hT]; exact hcB) hoB hclB hg (hsize.trans hml.symm) (argsL := As) (rest := rest) (fun sig h => hn.trans (hlen sig h)) hstack hW (by rw [hb]; exact hdg)
    (fun vm₁ hW₁ => ⟨hf.1, hf.2, hPc (T.setVm vm₁) hT hW₁⟩) with ⟨v, vm₁, ⟨U', l2, c2, s2⟩, hW₁, X', ⟨g', mk, t, L, e1, e2, hq, h1, hL, h2, h3⟩, st⟩ | ⟨q, vm₁, ⟨U', l2, c2, s2⟩, hW₁, X', ⟨g', mk, t, L, E, ce, e1, e2, hq, hce, hcv, hcl, h1, hL, h2, h3⟩, st⟩
  · dsimp only [Pt.U, Pt.locs, Pt.cells, Pt.slots] at X' e1 e2 h1 h2 h3 st
    subst h1; subst h2; subst h3
    exact Or.inl ⟨v, (T.setVm vm₁).calling g' mk (Value.ref b :: As).toArray, t, U', L, hT, X', hL, e1, e2, hq, st⟩
  · dsimp only [Pt.U, Pt.locs, Pt.cells, Pt.slots] at X' e1 e2 h1 h2 h3 st hcl
    subst h1; subst h2; subst h3
    exact Or.inr ⟨q, (T.setVm vm₁).calling g' mk (Value.ref b :: As).toArray, t, U', L, E, ce, hT, X', hL, e1, e2, hq, hce, hcv, vx_cls hW₁ hcl, st⟩
theorem vx_runS (S : CallFix p m c cc nL s args Ts own) (hM : vx_Met l y ws rm Pc Qc XC mc ms free) (cw : CallB R s args own index y bytes maxL ret ws rm mc ms n ∧ (Cond.static y).before args s = true) (hp : PreS s H Pc As)
    (hg : g.method = m) (hn : As.length = n) (hsize : g.locals.size = nL) (hstack : g.stack = As.reverse ++ rest) (hW : 2 * g.monitorRoom + (rest.map fun v => v.category).sum ≤ 8) (hdg : decode cc g.pc = .ok (.invokestatic index, 3)) (hf : cells + mc ≤ R.cells ∧ slots + ms ≤ R.slots) :
    vx_Run p l e R s m args below meth c H locs cells slots mc ms g rest (Qc As.toArray) XC free := by
  have hK : vx_Back l R p e below s args y 3 8 (PreOf R mc ms Pc) (PostOf Qc mc ms free) (vx_Post XC mc ms free) := vx_callBack cw.1 hM hp.1
  obtain ⟨⟨-, -, -, -, -, -, hcode, hini, hy, hlen, hl⟩, hstt⟩ := cw
  obtain ⟨hx, hb, hml, ho, -⟩ := S
  intro T hT X
  rcases vx_callS X hx (bytes := bytes) (maxL := maxL) (ret := ret) ho hl hstt hini hcode hy hK hg (hsize.trans hml.symm) (argsL := As) (rest := rest) (fun sig h => hn.trans (hlen sig h)) hstack hW (by rw [hb]; exact hdg)
    (fun vm₁ hW₁ => ⟨hf.1, hf.2, hp.2 (T.setVm vm₁) hT hW₁⟩) with ⟨v, vm₁, ⟨U', l2, c2, s2⟩, hW₁, X', ⟨g', mk, t, L, e1, e2, hq, h1, hL, h2, h3⟩, st⟩ | ⟨q, vm₁, ⟨U', l2, c2, s2⟩, hW₁, X', ⟨g', mk, t, L, E, ce, e1, e2, hq, hce, hcv, hcl, h1, hL, h2, h3⟩, st⟩
  · dsimp only [Pt.U, Pt.locs, Pt.cells, Pt.slots] at X' e1 e2 h1 h2 h3 st
    subst h1; subst h2; subst h3
    exact Or.inl ⟨v, (T.setVm vm₁).calling g' mk As.toArray, t, U', L, hT, X', hL, e1, e2, hq, st⟩
  · dsimp only [Pt.U, Pt.locs, Pt.cells, Pt.slots] at X' e1 e2 h1 h2 h3 st hcl
    subst h1; subst h2; subst h3
    exact Or.inr ⟨q, (T.setVm vm₁).calling g' mk As.toArray, t, U', L, E, ce, hT, X', hL, e1, e2, hq, hce, hcv, vx_cls hW₁ hcl, st⟩
end Runs
section Rows
variable {p : Program} {l : Launch} {e : Env} {R : Room} {s : State} {m : MethodId} {args : Array Value} {below : List Frame} {meth : Method} {c : Code} {H : Heap} {locs : List Loc} {cells slots : Nat} {Q : State → Prop}
variable {mc ms : Nat} {free : Addr → Prop} {A0 A1 : Nat → Prop} {H0 : Heap} {a : Array Value} {pc : Nat} {ls : Array Slot} {st0 rest : List Value}
theorem vx_keep {st₀ t T' : State} {L : List Loc} (h0 : st₀.heap = H) (e1 : T'.heap = t.heap) (hS : va_S A0 H0 H locs) (hA : ∀ q, q < H.size → A1 q → A0 q) (hf : ∀ q, free q → A0 q) (hL : ∀ q ∈ L, free q.base) (hF : va_F A1 st₀ t) :
    H.size ≤ T'.heap.size ∧ (∀ q : Nat, q < H.size → ¬ A1 q → T'.heap[q]? = H[q]?) ∧ va_S A0 H0 T'.heap (locs ++ L) := by
  obtain ⟨hz, hk⟩ := hF
  rw [h0] at hz hk
  exact ⟨by rw [e1]; exact hz, fun q h1 h2 => by rw [e1]; exact hk q h1 h2,
    ⟨Nat.le_trans hS.1 (by rw [e1]; exact hz), fun q h1 h2 => by rw [e1, hk q (Nat.lt_of_lt_of_le h1 hS.1) (fun z => h2 (hA q (Nat.lt_of_lt_of_le h1 hS.1) z))]; exact hS.2.1 q h1 h2, fun q hq => by
      rcases List.mem_append.mp hq with h | h
      · exact hS.2.2 q h
      · exact hf _ (hL q h)⟩⟩
theorem vx_calli {S SX : Type} {post : Int32 → S → Prop} {px : SX → Prop} {B : S → State → Prop} {BX : String → SX → State → Prop} {AX : Nat → Prop} (hr : vx_Run p l e R s m args below meth c H locs cells slots mc ms (F0 m pc ls st0) rest (va_Qi post B A1 a) (vx_X px BX AX) free) (hS : va_S A0 H0 H locs) (hA : ∀ q, q < H.size → A1 q → A0 q) (hf : ∀ q, free q → A0 q) (hAX : ∀ q, q < H.size → AX q → A0 q)
    (kx : ∀ (E : String) (ce : Cell) (q9 : Addr) (u : SX) (t : State) (H1 : Heap) (locs1 : List Loc), t.heap = H1 → s.vm.Alike t.vm → px u → BX E u t → H.size ≤ H1.size → (∀ q : Nat, q < H.size → ¬ AX q → H1[q]? = H[q]?) → va_S A0 H0 H1 locs1 → H1[q9]? = some ce → ce.vm = .none → s.vm.findClass E = some ce.cls → vx_W p l e R s m args below meth c H1 locs1 (cells + mc) (slots + ms) Q (F0 m pc ls rest) q9)
    (kk : ∀ (r : Int32) (u : S) (t : State) (H1 : Heap) (locs1 : List Loc), t.heap = H1 → s.vm.Alike t.vm → post r u → B u t → H.size ≤ H1.size → (∀ q : Nat, q < H.size → ¬ A1 q → H1[q]? = H[q]?) → va_S A0 H0 H1 locs1 → W p l e R s m args below meth c H1 locs1 (cells + mc) (slots + ms) Q (F0 m (pc + 3) ls (.int r :: rest))) : W p l e R s m args below meth c H locs cells slots Q (F0 m pc ls st0) := by
  intro T hT X
  rcases hr T hT X with ⟨v, st₀, t, T', L, h0, X', hL, e1, e2, ⟨⟨r, u, hv, hp, hb⟩, hF⟩, st⟩ | ⟨q, st₀, t, T', L, E, ce, h0, X', hL, e1, e2, ⟨u, hp, hb, hF⟩, hce, hcv, hcl, st⟩
  · cases hv
    obtain ⟨k1, k2, k3⟩ := vx_keep h0 e1 hS hA hf hL hF
    obtain ⟨t2, a1, b1⟩ := kk r u t T'.heap (locs ++ L) e1.symm (by rw [← e2]; exact X'.warmed.alike) hp hb k1 k2 k3 T' rfl X'
    exact ⟨t2, st t2 a1, b1⟩
  · obtain ⟨k1, k2, k3⟩ := vx_keep h0 e1 hS hAX hf hL hF
    obtain ⟨t2, a1, b1⟩ := kx E ce q u t T'.heap (locs ++ L) e1.symm (by rw [← e2]; exact X'.warmed.alike) hp hb k1 k2 k3 (by rw [e1]; exact hce) hcv hcl T' rfl X'
    exact ⟨t2, st.trans a1, b1⟩
theorem vx_calll {S SX : Type} {post : Int64 → S → Prop} {px : SX → Prop} {B : S → State → Prop} {BX : String → SX → State → Prop} {AX : Nat → Prop} (hr : vx_Run p l e R s m args below meth c H locs cells slots mc ms (F0 m pc ls st0) rest (va_Ql post B A1 a) (vx_X px BX AX) free) (hS : va_S A0 H0 H locs) (hA : ∀ q, q < H.size → A1 q → A0 q) (hf : ∀ q, free q → A0 q) (hAX : ∀ q, q < H.size → AX q → A0 q)
    (kx : ∀ (E : String) (ce : Cell) (q9 : Addr) (u : SX) (t : State) (H1 : Heap) (locs1 : List Loc), t.heap = H1 → s.vm.Alike t.vm → px u → BX E u t → H.size ≤ H1.size → (∀ q : Nat, q < H.size → ¬ AX q → H1[q]? = H[q]?) → va_S A0 H0 H1 locs1 → H1[q9]? = some ce → ce.vm = .none → s.vm.findClass E = some ce.cls → vx_W p l e R s m args below meth c H1 locs1 (cells + mc) (slots + ms) Q (F0 m pc ls rest) q9)
    (kk : ∀ (r : Int64) (u : S) (t : State) (H1 : Heap) (locs1 : List Loc), t.heap = H1 → s.vm.Alike t.vm → post r u → B u t → H.size ≤ H1.size → (∀ q : Nat, q < H.size → ¬ A1 q → H1[q]? = H[q]?) → va_S A0 H0 H1 locs1 → W p l e R s m args below meth c H1 locs1 (cells + mc) (slots + ms) Q (F0 m (pc + 3) ls (.long r :: rest))) : W p l e R s m args below meth c H locs cells slots Q (F0 m pc ls st0) := by
  intro T hT X
  rcases hr T hT X with ⟨v, st₀, t, T', L, h0, X', hL, e1, e2, ⟨⟨r, u, hv, hp, hb⟩, hF⟩, st⟩ | ⟨q, st₀, t, T', L, E, ce, h0, X', hL, e1, e2, ⟨u, hp, hb, hF⟩, hce, hcv, hcl, st⟩
  · cases hv
    obtain ⟨k1, k2, k3⟩ := vx_keep h0 e1 hS hA hf hL hF
    obtain ⟨t2, a1, b1⟩ := kk r u t T'.heap (locs ++ L) e1.symm (by rw [← e2]; exact X'.warmed.alike) hp hb k1 k2 k3 T' rfl X'
    exact ⟨t2, st t2 a1, b1⟩
  · obtain ⟨k1, k2, k3⟩ := vx_keep h0 e1 hS hAX hf hL hF
    obtain ⟨t2, a1, b1⟩ := kx E ce q u t T'.heap (locs ++ L) e1.symm (by rw [← e2]; exact X'.warmed.alike) hp hb k1 k2 k3 (by rw [e1]; exact hce) hcv hcl T' rfl X'
    exact ⟨t2, st.trans a1, b1⟩
theorem vx_callf {S SX : Type} {post : UInt32 → S → Prop} {px : SX → Prop} {B : S → State → Prop} {BX : String → SX → State → Prop} {AX : Nat → Prop} (hr : vx_Run p l e R s m args below meth c H locs cells slots mc ms (F0 m pc ls st0) rest (va_Qf post B A1 a) (vx_X px BX AX) free) (hS : va_S A0 H0 H locs) (hA : ∀ q, q < H.size → A1 q → A0 q) (hf : ∀ q, free q → A0 q) (hAX : ∀ q, q < H.size → AX q → A0 q)
    (kx : ∀ (E : String) (ce : Cell) (q9 : Addr) (u : SX) (t : State) (H1 : Heap) (locs1 : List Loc), t.heap = H1 → s.vm.Alike t.vm → px u → BX E u t → H.size ≤ H1.size → (∀ q : Nat, q < H.size → ¬ AX q → H1[q]? = H[q]?) → va_S A0 H0 H1 locs1 → H1[q9]? = some ce → ce.vm = .none → s.vm.findClass E = some ce.cls → vx_W p l e R s m args below meth c H1 locs1 (cells + mc) (slots + ms) Q (F0 m pc ls rest) q9)
    (kk : ∀ (r : UInt32) (u : S) (t : State) (H1 : Heap) (locs1 : List Loc), t.heap = H1 → s.vm.Alike t.vm → post r u → B u t → H.size ≤ H1.size → (∀ q : Nat, q < H.size → ¬ A1 q → H1[q]? = H[q]?) → va_S A0 H0 H1 locs1 → W p l e R s m args below meth c H1 locs1 (cells + mc) (slots + ms) Q (F0 m (pc + 3) ls (.float r :: rest))) : W p l e R s m args below meth c H locs cells slots Q (F0 m pc ls st0) := by
  intro T hT X
  rcases hr T hT X with ⟨v, st₀, t, T', L, h0, X', hL, e1, e2, ⟨⟨r, u, hv, hp, hb⟩, hF⟩, st⟩ | ⟨q, st₀, t, T', L, E, ce, h0, X', hL, e1, e2, ⟨u, hp, hb, hF⟩, hce, hcv, hcl, st⟩
  · cases hv
    obtain ⟨k1, k2, k3⟩ := vx_keep h0 e1 hS hA hf hL hF
    obtain ⟨t2, a1, b1⟩ := kk r u t T'.heap (locs ++ L) e1.symm (by rw [← e2]; exact X'.warmed.alike) hp hb k1 k2 k3 T' rfl X'
    exact ⟨t2, st t2 a1, b1⟩
  · obtain ⟨k1, k2, k3⟩ := vx_keep h0 e1 hS hAX hf hL hF
    obtain ⟨t2, a1, b1⟩ := kx E ce q u t T'.heap (locs ++ L) e1.symm (by rw [← e2]; exact X'.warmed.alike) hp hb k1 k2 k3 (by rw [e1]; exact hce) hcv hcl T' rfl X'
    exact ⟨t2, st.trans a1, b1⟩
theorem vx_calld {S SX : Type} {post : UInt64 → S → Prop} {px : SX → Prop} {B : S → State → Prop} {BX : String → SX → State → Prop} {AX : Nat → Prop} (hr : vx_Run p l e R s m args below meth c H locs cells slots mc ms (F0 m pc ls st0) rest (va_Qd post B A1 a) (vx_X px BX AX) free) (hS : va_S A0 H0 H locs) (hA : ∀ q, q < H.size → A1 q → A0 q) (hf : ∀ q, free q → A0 q) (hAX : ∀ q, q < H.size → AX q → A0 q)
    (kx : ∀ (E : String) (ce : Cell) (q9 : Addr) (u : SX) (t : State) (H1 : Heap) (locs1 : List Loc), t.heap = H1 → s.vm.Alike t.vm → px u → BX E u t → H.size ≤ H1.size → (∀ q : Nat, q < H.size → ¬ AX q → H1[q]? = H[q]?) → va_S A0 H0 H1 locs1 → H1[q9]? = some ce → ce.vm = .none → s.vm.findClass E = some ce.cls → vx_W p l e R s m args below meth c H1 locs1 (cells + mc) (slots + ms) Q (F0 m pc ls rest) q9)
    (kk : ∀ (r : UInt64) (u : S) (t : State) (H1 : Heap) (locs1 : List Loc), t.heap = H1 → s.vm.Alike t.vm → post r u → B u t → H.size ≤ H1.size → (∀ q : Nat, q < H.size → ¬ A1 q → H1[q]? = H[q]?) → va_S A0 H0 H1 locs1 → W p l e R s m args below meth c H1 locs1 (cells + mc) (slots + ms) Q (F0 m (pc + 3) ls (.double r :: rest))) : W p l e R s m args below meth c H locs cells slots Q (F0 m pc ls st0) := by
  intro T hT X
  rcases hr T hT X with ⟨v, st₀, t, T', L, h0, X', hL, e1, e2, ⟨⟨r, u, hv, hp, hb⟩, hF⟩, st⟩ | ⟨q, st₀, t, T', L, E, ce, h0, X', hL, e1, e2, ⟨u, hp, hb, hF⟩, hce, hcv, hcl, st⟩
  · cases hv
    obtain ⟨k1, k2, k3⟩ := vx_keep h0 e1 hS hA hf hL hF
    obtain ⟨t2, a1, b1⟩ := kk r u t T'.heap (locs ++ L) e1.symm (by rw [← e2]; exact X'.warmed.alike) hp hb k1 k2 k3 T' rfl X'
    exact ⟨t2, st t2 a1, b1⟩
  · obtain ⟨k1, k2, k3⟩ := vx_keep h0 e1 hS hAX hf hL hF
    obtain ⟨t2, a1, b1⟩ := kx E ce q u t T'.heap (locs ++ L) e1.symm (by rw [← e2]; exact X'.warmed.alike) hp hb k1 k2 k3 (by rw [e1]; exact hce) hcv hcl T' rfl X'
    exact ⟨t2, st.trans a1, b1⟩
theorem vx_callv {S SX : Type} {post : S → Prop} {px : SX → Prop} {B : S → State → Prop} {BX : String → SX → State → Prop} {AX : Nat → Prop} (hr : vx_Run p l e R s m args below meth c H locs cells slots mc ms (F0 m pc ls st0) rest (va_Qv post B A1 a) (vx_X px BX AX) free) (hS : va_S A0 H0 H locs) (hA : ∀ q, q < H.size → A1 q → A0 q) (hf : ∀ q, free q → A0 q) (hAX : ∀ q, q < H.size → AX q → A0 q)
    (kx : ∀ (E : String) (ce : Cell) (q9 : Addr) (u : SX) (t : State) (H1 : Heap) (locs1 : List Loc), t.heap = H1 → s.vm.Alike t.vm → px u → BX E u t → H.size ≤ H1.size → (∀ q : Nat, q < H.size → ¬ AX q → H1[q]? = H[q]?) → va_S A0 H0 H1 locs1 → H1[q9]? = some ce → ce.vm = .none → s.vm.findClass E = some ce.cls → vx_W p l e R s m args below meth c H1 locs1 (cells + mc) (slots + ms) Q (F0 m pc ls rest) q9)
    (kk : ∀ (u : S) (t : State) (H1 : Heap) (locs1 : List Loc), t.heap = H1 → s.vm.Alike t.vm → post u → B u t → H.size ≤ H1.size → (∀ q : Nat, q < H.size → ¬ A1 q → H1[q]? = H[q]?) → va_S A0 H0 H1 locs1 → W p l e R s m args below meth c H1 locs1 (cells + mc) (slots + ms) Q (F0 m (pc + 3) ls (rest))) : W p l e R s m args below meth c H locs cells slots Q (F0 m pc ls st0) := by
  intro T hT X
  rcases hr T hT X with ⟨v, st₀, t, T', L, h0, X', hL, e1, e2, ⟨⟨u, hv, hp, hb⟩, hF⟩, st⟩ | ⟨q, st₀, t, T', L, E, ce, h0, X', hL, e1, e2, ⟨u, hp, hb, hF⟩, hce, hcv, hcl, st⟩
  · cases hv
    obtain ⟨k1, k2, k3⟩ := vx_keep h0 e1 hS hA hf hL hF
    obtain ⟨t2, a1, b1⟩ := kk u t T'.heap (locs ++ L) e1.symm (by rw [← e2]; exact X'.warmed.alike) hp hb k1 k2 k3 T' rfl X'
    exact ⟨t2, st t2 a1, b1⟩
  · obtain ⟨k1, k2, k3⟩ := vx_keep h0 e1 hS hAX hf hL hF
    obtain ⟨t2, a1, b1⟩ := kx E ce q u t T'.heap (locs ++ L) e1.symm (by rw [← e2]; exact X'.warmed.alike) hp hb k1 k2 k3 (by rw [e1]; exact hce) hcv hcl T' rfl X'
    exact ⟨t2, st.trans a1, b1⟩
/-- caught by the row x of this method's table; the rows ahead don't take it -/
theorem vx_catch {own name : String} {E : String} {ce : Cell} {q : Addr} (hown : s.vm.findClass own = some m.cls) (pre : List ExceptionTableEntry) (x : ExceptionTableEntry) (suf : List ExceptionTableEntry) (hsplit : c.exceptionTable.toList = pre ++ x :: suf)
    (hpass : ∀ z ∈ pre, covers z pc = false ∨ (z.catchType ≠ 0 ∧ ∃ nm : String, (Cond.classLink own z.catchType nm).before args s = true ∧ va_Nc E nm s)) (hx : covers x pc = true) (h0 : x.catchType ≠ 0)
    (hlink : (Cond.classLink own x.catchType name).before args s = true) (hcast : (Cond.castable E name).before args s = true) (hcell : H[q]? = some ce) (hv : ce.vm = .none) (hcl : s.vm.findClass E = some ce.cls)
    (kk : W p l e R s m args below meth c H locs cells slots Q (F0 m x.handlerPc ls [.ref q])) : vx_W p l e R s m args below meth c H locs cells slots Q (F0 m pc ls rest) q := by
  intro T hT X
  have hpl : e.platform.magicAccessors = ({} : Platform).magicAccessors := by rw [X.admits.platform]
  obtain ⟨c3, c4, hc3, hc4, hasg⟩ := Cond.castable_spec hcast
  cases Option.some.inj (hc3.symm.trans hcl)
  obtain ⟨c5, hc5, hcl5⟩ := Cond.classLink_spec hown hlink e.platform hpl
  cases Option.some.inj (hc4.symm.trans hc5)
  obtain ⟨vm', X', st⟩ := X.thenCaughtThrough q (g := F0 m pc ls rest) rfl (Steps.refl _) (by rw [hT]; exact hcell) (by rw [hv]; rfl) (by obtain ⟨k9, h9, -⟩ := Vm.findClass_spec hcl; exact ⟨k9, h9⟩) pre x suf hsplit
    (fun z hz => by
      rcases hpass z hz with h | ⟨hz0, nm, hl1, hn1⟩
      · exact Or.inl h
      · obtain ⟨c6, hc6, hcl6⟩ := Cond.classLink_spec hown hl1 e.platform hpl
        obtain ⟨a8, b8, h1, h2, h3⟩ := hn1
        cases Option.some.inj (h1.symm.trans hcl)
        cases Option.some.inj (h2.symm.trans hc6)
        exact Or.inr ⟨hz0, _, hcl6, h3⟩) hx (Or.inr ⟨h0, c4, hcl5, hasg⟩)
  obtain ⟨t, a1, b1⟩ := kk (T.setVm vm') hT X'
  exact ⟨t, st.trans a1, b1⟩
end Rows
section Ends
variable {p : Program} {l : Launch} {e : Env} {R : Room} {s : State} {m : MethodId} {args : Array Value} {below : List Frame} {meth : Method} {c : Code} {H : Heap} {locs : List Loc} {cells slots : Nat} {Q : State → Prop}
variable {mc ms : Nat} {free : Addr → Prop} {A0 A1 : Nat → Prop} {H0 : Heap} {a : Array Value} {ls : Array Slot} {st0 rest : List Value}
variable {Qc : Array Value → State → Outcome → State → Prop} {XC : String → State → State → Prop}
/-- what a body that may throw owes at its end -/
def vx_MQ (below : List Frame) (Qc : Array Value → State → Outcome → State → Prop) (XC : String → State → State → Prop) (a : Array Value) (s : State) (mc ms : Nat) (free : Addr → Prop) : State → Prop := fun t =>
  ∃ o, t.status = .running ∧ Ended t below o ∧ vx_Q Qc XC mc ms free a s o t
theorem vx_ret {g : JFrame} {mc ms : Nat} (k : W p l e R s m args below meth c H locs cells slots (MQ below Qc args s mc ms free) g) : W p l e R s m args below meth c H locs cells slots (vx_MQ below Qc XC args s mc ms free) g := by
  intro T hT X
  obtain ⟨t, a1, o, b1, b2, b3, b4⟩ := k T hT X
  exact ⟨t, a1, o, b1, b2, Or.inl ⟨b3, b4⟩⟩
/-- not caught here: it goes on to the caller -/
theorem vx_widen {g : JFrame} {q : Addr} {k n : Nat} (h1 : cells ≤ k) (h2 : slots ≤ n) (kk : vx_W p l e R s m args below meth c H locs k n Q g q) : vx_W p l e R s m args below meth c H locs cells slots Q g q := fun T hT X => kk T hT (stand_widen X h1 h2)
theorem vx_out {pc : Nat} {E : String} {ce : Cell} {q : Addr} {mc ms : Nat} (hout : ∀ x ∈ c.exceptionTable.toList, covers x pc = false) (hlocks : meth.locks = false) (hcell : H[q]? = some ce) (hv : ce.vm = .none) (hcl : s.vm.findClass E = some ce.cls)
    (hx : ∀ t : State, t.heap = H → s.vm.Alike t.vm → XC E s t) (hf : ∀ z ∈ locs, free z.base) (hc : cells ≤ mc) (hs : slots ≤ ms) :
    vx_W p l e R s m args below meth c H locs cells slots (vx_MQ below Qc XC args s mc ms free) (F0 m pc ls rest) q := by
  intro T hT X
  obtain ⟨st1, hrun, hend, hW, hsm⟩ := X.leaveThrown q (g := F0 m pc ls rest) rfl rfl rfl hout hlocks
  have hcell9 : (T.setFrames (.throwing q :: below)).heap[q]? = some ce := by
    show T.heap[q]? = some ce
    rw [hT]; exact hcell
  exact ⟨_, st1, .threw q, hrun, hend, Or.inr ⟨q, rfl, E, ce, locs, hx _ hT hW.alike, hcell9, hv, hcl, hW, hsm.mono hc hs, hf⟩⟩
theorem vx_frame {U : State} {k n : Nat} (h : s.sameButNew ({ U with vm := s.vm } : State) locs k n) : s.heap.size ≤ U.heap.size ∧ ∀ q : Nat, q < s.heap.size → (∀ z ∈ locs, z.base ≠ q) → U.heap[q]? = s.heap[q]? := by
  obtain ⟨-, h2, -, -, -, h6⟩ := h
  refine ⟨h2, fun q hq hz => ?_⟩
  obtain ⟨c9, e1, e2, e3, e4⟩ := h6 q _ (Array.getElem?_eq_getElem hq)
  have hs : c9.slots = (s.heap[q]).slots := Array.ext_getElem? fun i => e4 i fun hm => hz _ hm rfl
  have h9 : c9 = s.heap[q] := by
    rw [hs] at e2
    exact e2
  have e5 : U.heap[q]? = some c9 := e1
  rw [e5, h9, Array.getElem?_eq_getElem hq]
/-- the words of a throw but the four that speak of the heap -/
def vx_no (w : Cond) : Bool := decide (w ≠ .isRef (.static Bundle.tN "UNASSIGNED_STACK" Bundle.steD)) && decide (w ≠ .isRef (.static Bundle.tN "SUPPRESSED_SENTINEL" Bundle.listD)) && decide (w ≠ .laysStatic Bundle.tN "UNASSIGNED_STACK" Bundle.steD) && decide (w ≠ .laysStatic Bundle.tN "SUPPRESSED_SENTINEL" Bundle.listD)
def vx_at0 (own : String) (ic : Nat) (X : String) (names : List String) : List Cond := (Bundle.ownAtoms0 own ic X names).filter vx_no
def vx_atS (own : String) (ic : Nat) (X : String) (names : List String) : List Cond := (Bundle.ownAtoms own ic X names).filter vx_no
/-- a word that the tables alone decide, or a good one -/
def vx_ot (w : Cond) : Bool := w.onTables || goodWord w
theorem vx_ot_at {args a' : Array Value} {s U : State} {w : Cond} (hW : s.WarmedH U.vm) (hvm : s.vm = U.vm) (hg : vx_ot w = true) (h : w.before args s = true) : w.before a' U = true := by
  simp only [vx_ot, Bool.or_eq_true] at hg
  rcases hg with hg | hg
  · exact va_tabs hg hvm h
  · exact word_at hW (good_of_word hg) h
/-- a list's words: the good ones out of the method's own list, the others by premises of their own -/
theorem vx_hat {args : Array Value} {s : State} {L B : List Cond} (h1 : ∀ w ∈ L.filter goodWord, w.before args s = true) (h2 : ∀ w ∈ L.filter (fun w => !goodWord w), w ∈ B) (h3 : ∀ w ∈ B, w.before args s = true) : ∀ w ∈ L, w.before args s = true := by
  intro w hw
  by_cases g : goodWord w = true
  · exact h1 w (List.mem_filter.mpr ⟨hw, g⟩)
  · refine h3 w (h2 w (List.mem_filter.mpr ⟨hw, ?_⟩))
    show (!goodWord w) = true
    cases hgw : goodWord w
    · rfl
    · exact absurd hgw g
theorem vx_c {args : Array Value} {s : State} {w : Cond} {B : List Cond} (h : w.before args s = true) (t : ∀ w ∈ B, w.before args s = true) : ∀ w' ∈ w :: B, w'.before args s = true := fun w' h' => (List.mem_cons.mp h').elim (fun e => by rw [e]; exact h) (t w')
theorem vx_n {args : Array Value} {s : State} : ∀ w ∈ ([] : List Cond), w.before args s = true := fun _ h => nomatch h
theorem vx_own {args : Array Value} {s : State} {L : List Cond} (h1 : ∀ w ∈ L.filter vx_no, w.before args s = true)
    (hU : (Cond.isRef (.static Bundle.tN "UNASSIGNED_STACK" Bundle.steD)).before args s = true) (hN : (Cond.isRef (.static Bundle.tN "SUPPRESSED_SENTINEL" Bundle.listD)).before args s = true)
    (lU : (Cond.laysStatic Bundle.tN "UNASSIGNED_STACK" Bundle.steD).before args s = true) (lN : (Cond.laysStatic Bundle.tN "SUPPRESSED_SENTINEL" Bundle.listD).before args s = true) : ∀ w ∈ L, w.before args s = true := by
  intro w hw
  by_cases e1 : w = .isRef (.static Bundle.tN "UNASSIGNED_STACK" Bundle.steD)
  · rw [e1]; exact hU
  · by_cases e2 : w = .isRef (.static Bundle.tN "SUPPRESSED_SENTINEL" Bundle.listD)
    · rw [e2]; exact hN
    · by_cases e3 : w = .laysStatic Bundle.tN "UNASSIGNED_STACK" Bundle.steD
      · rw [e3]; exact lU
      · by_cases e4 : w = .laysStatic Bundle.tN "SUPPRESSED_SENTINEL" Bundle.listD
        · rw [e4]; exact lN
        · exact h1 w (List.mem_filter.mpr ⟨hw, by unfold vx_no; rw [decide_eq_true e1, decide_eq_true e2, decide_eq_true e3, decide_eq_true e4]; rfl⟩)
/-- where a static field lies, its class's statics cell in H -/
def vx_L (C n d : String) (A : Nat → Prop) (U : State) (H : Heap) : Prop := ∃ (c : ClassId) (k : Class) (i : Nat) (f : Field) (a : Nat) (cell : Cell), U.vm.findClass C = some c ∧ U.fieldFound? C n d = some (c, k, i, f) ∧ f.isStatic = true ∧ k.statics = some a ∧ H[a]? = some cell ∧ cell.vm.isStatics = true ∧ cell.cls = c ∧ f.slot < cell.slots.size ∧ k.staticTypes[f.slot]? = some f.type ∧ ¬ A a
theorem vx_L.moved {C n d : String} {A : Nat → Prop} {u U : State} {H : Heap} (hvm : u.vm.Alike U.vm) (h : vx_L C n d A u H) : vx_L C n d A U H := by
  obtain ⟨c, k, i, f, a, cell, h1, h2, h3, h4, h5, h6, h7, h8, h9, h10⟩ := h
  obtain ⟨k', hi', he⟩ := State.fieldFound?_setVm hvm h2
  exact ⟨c, k', i, f, a, cell, by rw [hvm.findClass]; exact h1, hi', h3, by rw [he]; exact h4, h5, h6, h7, h8, by rw [he]; exact h9, h10⟩
theorem vx_L.kept {C n d : String} {A : Nat → Prop} {U : State} {H H1 : Heap} (h : vx_L C n d A U H) (hq : ∀ a : Nat, a < H.size → ¬ A a → H1[a]? = H[a]?) : vx_L C n d A U H1 := by
  obtain ⟨c, k, i, f, a, cell, h1, h2, h3, h4, h5, h6, h7, h8, h9, h10⟩ := h
  exact ⟨c, k, i, f, a, cell, h1, h2, h3, h4, by rw [hq a (Array.getElem?_eq_some_iff.mp h5).1 h10]; exact h5, h6, h7, h8, h9, h10⟩
theorem vx_L.narrow {C n d : String} {A B : Nat → Prop} {U : State} {H : Heap} (h : vx_L C n d A U H) (hAB : ∀ q, B q → A q) : vx_L C n d B U H := by
  obtain ⟨c, k, i, f, a, cell, h1, h2, h3, h4, h5, h6, h7, h8, h9, h10⟩ := h
  exact ⟨c, k, i, f, a, cell, h1, h2, h3, h4, h5, h6, h7, h8, h9, fun z => h10 (hAB _ z)⟩
theorem vx_L.word {C n d : String} {A : Nat → Prop} {s : State} {args : Array Value} (h : vx_L C n d A s s.heap) : (Cond.laysStatic C n d).before args s = true := by
  obtain ⟨c, k, i, f, a, cell, h1, h2, h3, h4, h5, h6, h7, h8, h9, -⟩ := h
  show (Cond.laysStatic C n d).holds args s none s [] = true
  exact Cond.laysStatic_of h1 h2 h3 h4 h5 h6 h7 h8 h9
/-- .. and what it holds: null or some reference -/
def vx_Zq (C n d : String) (A : Nat → Prop) (U : State) (H : Heap) : Prop := va_Zq C n d A U H ∧ vx_L C n d A U H
theorem vx_Zq.moved {C n d : String} {A : Nat → Prop} {u U : State} {H : Heap} (hvm : u.vm.Alike U.vm) (h : vx_Zq C n d A u H) : vx_Zq C n d A U H := ⟨va_Zq.moved hvm h.1, vx_L.moved hvm h.2⟩
theorem vx_Zq.kept {C n d : String} {A : Nat → Prop} {U : State} {H H1 : Heap} (h : vx_Zq C n d A U H) (hq : ∀ a : Nat, a < H.size → ¬ A a → H1[a]? = H[a]?) : vx_Zq C n d A U H1 := ⟨va_Zq.kept h.1 hq, vx_L.kept h.2 hq⟩
theorem vx_Zq.narrow {C n d : String} {A B : Nat → Prop} {U : State} {H : Heap} (h : vx_Zq C n d A U H) (hAB : ∀ q, B q → A q) : vx_Zq C n d B U H := ⟨va_Zq.narrow h.1 hAB, vx_L.narrow h.2 hAB⟩
theorem vx_Zqof {args : Array Value} {s : State} {C n d : String} {A : Nat → Prop} (hl : (Cond.laysStatic C n d).before args s = true) (hini : (Cond.initialized C).before args s = true) (h : (Cond.isRef (.static C n d)).before args s = true) (hA : ∀ a : Nat, a < s.heap.size → ¬ A a) : vx_Zq C n d A s s.heap := by
  refine ⟨va_Zqof hl hini h hA, ?_⟩
  obtain ⟨c, k, i, f, a, cell, h1, h2, h3, h4, h5, h6, h7, h8, h9⟩ := Cond.laysStatic_spec hl
  exact ⟨c, k, i, f, a, cell, h1, h2, h3, h4, h5, h6, h7, h8, h9, hA a (Array.getElem?_eq_some_iff.mp h5).1⟩
theorem vx_isRef {C n d : String} {v : Value} {A : Nat → Prop} {s : State} {args : Array Value} (h : va_Z C n d v A s s.heap) (hv : v.isRef = true) : (Cond.isRef (.static C n d)).before args s = true := by
  obtain ⟨cf, kf, fi, f, a, cell, h1, h2, h3, h4, h5, h6, h7, -⟩ := h
  have he : (Term.static C n d).eval args s none [] s = some v := by
    simp [Term.eval, State.fieldNamed?, h1, h2, h4, h5, h6, h7]
  simp only [Cond.before, Cond.holds, Cond.value, he]
  cases v <;> simp_all [Value.isRef]
theorem vx_isRefq {C n d : String} {A : Nat → Prop} {s : State} {args : Array Value} (h : va_Zq C n d A s s.heap) : (Cond.isRef (.static C n d)).before args s = true := by
  rcases h with h | ⟨t, h⟩
  · exact vx_isRef h rfl
  · exact vx_isRef h rfl
/-- the same frame, seen from here: as if the method were called anew in this heap -/
theorem vx_rebase {T : State} (X : Stand p l e R s m args below meth c T locs cells slots) {R' : Room} (hf : R'.frames ≤ R.frames) (hl : R'.locals ≤ R.locals) (hc : cells + R'.cells ≤ R.cells) (hs : slots + R'.slots ≤ R.slots) :
    Stand p l e R' ((T.setVm s.vm).setFrames (.invoking m args :: below)) m args below meth c T [] 0 0 := by
  have htop : (T.setVm s.vm).topJava?.isSome := X.here.top
  have hF : ((T.setVm s.vm).setFrames (.invoking m args :: below)).frames = .invoking m args :: below := State.frames_setFrames _ (State.cur_lt_of_top htop)
  obtain ⟨g₀, hg0⟩ := Option.isSome_iff_exists.mp htop
  obtain ⟨r, hr⟩ := State.topJava?_eq_some.mp hg0
  have hl9 : e.platform.stackLimits (T.setVm s.vm).me = e.platform.stackLimits s.me := X.limits
  have hb9 : (T.setVm s.vm).me.stackBytes = s.me.stackBytes := X.bytes
  refine ⟨X.admits, X.cas, X.clock, hF, ?_, X.hears, X.method, X.code, X.here, X.tail, X.warmed, ?_, ?_, ?_⟩
  · have h := X.room
    have hU : ((T.setVm s.vm).setFrames (.invoking m args :: below)).localsInUse = s.localsInUse := by
      rw [State.localsInUse_invoking hF (meth := meth) (c := c) X.method X.code, State.localsInUse_invoking X.frames X.method X.code]
    simp only [State.hasRoom, Bool.and_eq_true, decide_eq_true_eq] at h ⊢
    obtain ⟨⟨⟨⟨h1, h2, h3, h4, h5, h6⟩, h7⟩, h8⟩, h9⟩ := h
    rw [X.frames, List.length_cons] at h2 h3
    have q1 := X.heapSize
    have q2 := X.used
    simp only [hF, hU, List.length_cons, State.stackLimits_setFrames, State.stackBytes_setFrames, hl9, hb9]
    refine ⟨⟨⟨⟨by omega, by omega, by omega, by omega, by omega, h6⟩, ?_⟩, ?_⟩, X.book⟩
    · show T.heap.size + R'.cells ≤ e.platform.maxCells
      omega
    · show T.slotsUsed + R'.slots ≤ e.platform.maxSlots
      omega
  · rw [State.stackLimits_setFrames]; rfl
  · rw [State.stackBytes_setFrames]; rfl
  · refine ⟨?_, Nat.le_refl _, Nat.le_refl _, ?_, ?_, fun a c9 h9 => ⟨c9, h9, rfl, rfl, fun _ _ => rfl⟩⟩
    · obtain ⟨t, ht, -⟩ := State.frames_cons hr
      show T.setVm s.vm = { ((T.setVm s.vm).setFrames (.invoking m args :: below)).setFrames (T.setVm s.vm).frames with heap := T.heap, slotsUsed := T.slotsUsed }
      rw [State.setFrames_setFrames, State.setFrames_self ht]
      rfl
    · show T.slotsUsed = T.slotsUsed + ((T.heap.toList.drop T.heap.size).map (·.slots.size)).sum
      rw [List.drop_eq_nil_of_le (Nat.le_of_eq Array.length_toList)]
      rfl
    · show ((T.heap.toList.drop T.heap.size).map (·.slots.size)).sum ≤ 0
      rw [List.drop_eq_nil_of_le (Nat.le_of_eq Array.length_toList)]
      exact Nat.le_refl _
/-- 'throw new E()': new; dup; invokespecial; athrow -/
theorem vx_throw0 {cc : ByteArray} {pc : Nat} (hexec : p.tables.exec = Jvm.exec) (hb : c.code = cc) (hl : l.stackTraces = false) {own cls : String} {names : List String} {ik ic mc ms : Nat} {A : Nat → Prop}
    (hown : s.vm.findClass own = some m.cls) (hcls : Bundle.fit cls = true) (hnames : ∀ n ∈ names, Bundle.fit n = true)
    (hk : (Cond.classLink own ik cls).before args s = true) (hini : (Cond.initialized cls).before args s = true) (hat : ∀ w ∈ vx_at0 own ic cls names, w.before args s = true)
    (hgood : ∀ w ∈ Cond.classLink own ik cls :: Cond.initialized cls :: vx_at0 own ic cls names, vx_ot w = true)
    (hU : vx_Zq Bundle.tN "UNASSIGNED_STACK" Bundle.steD A s s.heap) (hN : vx_Zq Bundle.tN "SUPPRESSED_SENTINEL" Bundle.listD A s s.heap) (hS : va_S A s.heap H locs) (hsize : ls.size = c.maxLocals)
    (d0 : decode cc pc = .ok (.new ik, 3)) (d3 : decode cc (pc + 3) = .ok (.dup, 1)) (d4 : decode cc (pc + 4) = .ok (.invokespecial ic, 3)) (d7 : decode cc (pc + 7) = .ok (.athrow, 1))
    (hout : ∀ x ∈ c.exceptionTable.toList, covers x (pc + 7) = false)
    (hRframes : names.length + 3 < R.frames) (hRlocals : (rest.map fun v => v.category).sum + (13 * (names.length + 1) + 42) ≤ R.locals) (hRcells : cells + 1 ≤ R.cells) (hRslots : slots + 6 ≤ R.slots) (hlocks : meth.locks = false)
    (hx : ∀ t : State, s.vm.Alike t.vm → H.size ≤ t.heap.size → (∀ q : Nat, q < H.size → t.heap[q]? = H[q]?) → XC cls s t)
    (hf : ∀ z ∈ locs, free z.base) (hc : cells + 1 ≤ mc) (hs : slots + 6 ≤ ms) :
    W p l e R s m args below meth c H locs cells slots (vx_MQ below Qc XC args s mc ms free) (F0 m pc ls rest) := by
  intro T hT X
  have htr : e.platform.stackTraces = false := (show e.platform.stackTraces = l.stackTraces by rw [X.admits.platform]).trans hl
  have Y := vx_rebase X (R' := { frames := R.frames, locals := R.locals, cells := 1, slots := 6 }) (Nat.le_refl _) (Nat.le_refl _) hRcells hRslots
  obtain ⟨s', hA⟩ : ∃ z, z = (T.setVm s.vm).setFrames (.invoking m args :: below) := ⟨_, rfl⟩
  rw [← hA] at Y
  have hvm : s'.vm = s.vm := by rw [hA]; rfl
  have hhp : s'.heap = H := by rw [hA]; exact hT
  have hW0 : s.WarmedH s'.vm := by rw [hvm]; exact State.WarmedH.refl s
  have hat' : ∀ w ∈ vx_at0 own ic cls names, w.before args s' = true := fun w hw => vx_ot_at hW0 hvm.symm (hgood w (List.mem_cons_of_mem _ (List.mem_cons_of_mem _ hw))) (hat w hw)
  have hk' : (Cond.classLink own ik cls).before args s' = true := vx_ot_at hW0 hvm.symm (hgood _ List.mem_cons_self) hk
  have hini' : (Cond.initialized cls).before args s' = true := vx_ot_at hW0 hvm.symm (hgood _ (List.mem_cons_of_mem _ List.mem_cons_self)) hini
  have hU' : vx_Zq Bundle.tN "UNASSIGNED_STACK" Bundle.steD A s' s'.heap := by rw [hhp]; exact vx_Zq.moved hW0.alike (hU.kept hS.2.1)
  have hN' : vx_Zq Bundle.tN "SUPPRESSED_SENTINEL" Bundle.listD A s' s'.heap := by rw [hhp]; exact vx_Zq.moved hW0.alike (hN.kept hS.2.1)
  have h : ∀ w ∈ Bundle.ownAtoms0 own ic cls names, w.before args s' = true := vx_own hat' (vx_isRefq hU'.1) (vx_isRefq hN'.1) hU'.2.word hN'.2.word
  have hown' : s'.vm.findClass own = some m.cls := by rw [hvm]; exact hown
  have hins : (Cond.instantiable cls 6).before args s' = true := h _ (by simp [Bundle.ownAtoms0])
  obtain ⟨vm₁, cX, kX, hfX, hkX, -, -, X₁, st1⟩ := Y.newCold hexec (own := own) (C := cls) (index := ik) (n := 6) hown' hk' hins hini'
    (g := F0 m pc ls rest) rfl (by rw [hb]; exact d0) (Nat.le_refl _) (Nat.le_refl _)
  generalize hT1 : (T.setVm vm₁).pushCell { cls := cX, slots := kX.instanceTypes.map defaultValue, vm := .none } = T1 at X₁ st1
  have hcat : (Value.ref T.heap.size).category = 1 := rfl
  have hcellA : T1.heap[T.heap.size]? = some (freshCell cX kX) := by rw [← hT1]; exact State.heap_pushCell_size _ _
  have d3' : decode c.code (pc + 3) = .ok (.dup, 1) := by rw [hb]; exact d3
  obtain ⟨U, hsteps, hrun, hend, hW, hsame, ce, hce, hO⟩ := X₁.ctorThrow0 hexec htr (own := own) (cls := cls) (names := names) (ic := ic) hown' hcls hnames h (fun x hx => nomatch hx) hfX hkX hcellA (by rw [hhp, hT]; exact Nat.le_refl _)
    (g := { method := m, pc := pc + 4, locals := ls, stack := .ref T.heap.size :: .ref T.heap.size :: rest, locked := none }) rfl hsize rfl rfl (rest := rest) rfl
    (by rw [hb]; exact d4) (by rw [hb]; exact d7) hout hRframes (by simp only [List.map_cons, List.sum_cons, hcat]; omega) hlocks
  obtain ⟨f1, f2⟩ := vx_frame hsame
  rw [hhp] at f1 f2
  have hWs : s.WarmedH U.vm := State.WarmedH.trans hW0 hW
  have hcl : s.vm.findClass cls = some ce.cls := by
    have h9 := hO.cls
    rw [hvm] at h9
    exact h9
  have hall : s.sameButNew ({ U with vm := s.vm } : State) locs mc ms := by
    subst hA
    obtain ⟨e1, e2⟩ := hsame
    rw [State.setFrames_setFrames] at e1
    have h2 : (T.setVm s.vm).sameButNew ({ U with vm := s.vm } : State) [] (0 + 1) (0 + 6) := ⟨e1, e2⟩
    have h3 := X.same.trans h2
    rw [List.append_nil] at h3
    exact h3.mono hc hs
  refine ⟨U, ?_, .threw T.heap.size, hrun, hend, Or.inr ⟨T.heap.size, rfl, cls, ce, locs, hx U hWs.alike f1 (fun q hq => f2 q hq (fun z hz => nomatch hz)), hce, hO.vm, hcl, hWs, hall, hf⟩⟩
  refine st1 _ ?_
  show Steps p.tables e below (T1.setTop { method := m, pc := pc + 3, locals := ls, stack := .ref T.heap.size :: rest, locked := none }) _
  jvm_step X₁.here [X₁.here.top, hexec, d3', Value.category]
  exact hsteps
/-- 'throw new E("text")': new; dup; ldc; invokespecial; athrow -/
theorem vx_throwS {cc : ByteArray} {pc : Nat} (hexec : p.tables.exec = Jvm.exec) (hb : c.code = cc) (hl : l.stackTraces = false) {own cls text : String} {names : List String} {ik is ic mc ms sa : Nat} {A : Nat → Prop}
    (hown : s.vm.findClass own = some m.cls) (hcls : Bundle.fit cls = true) (hnames : ∀ n ∈ names, Bundle.fit n = true)
    (hk : (Cond.classLink own ik cls).before args s = true) (hini : (Cond.initialized cls).before args s = true) (hstr : vk_R own is text sa s) (hat : ∀ w ∈ vx_atS own ic cls names, w.before args s = true)
    (hgood : ∀ w ∈ Cond.classLink own ik cls :: Cond.initialized cls :: vx_atS own ic cls names, vx_ot w = true)
    (hU : vx_Zq Bundle.tN "UNASSIGNED_STACK" Bundle.steD A s s.heap) (hN : vx_Zq Bundle.tN "SUPPRESSED_SENTINEL" Bundle.listD A s s.heap) (hS : va_S A s.heap H locs) (hsize : ls.size = c.maxLocals)
    (d0 : decode cc pc = .ok (.new ik, 3)) (d3 : decode cc (pc + 3) = .ok (.dup, 1)) (d4 : decode cc (pc + 4) = .ok (.ldc is, 2)) (d6 : decode cc (pc + 6) = .ok (.invokespecial ic, 3)) (d9 : decode cc (pc + 9) = .ok (.athrow, 1))
    (hout : ∀ x ∈ c.exceptionTable.toList, covers x (pc + 9) = false)
    (hRframes : names.length + 3 < R.frames) (hRlocals : (rest.map fun v => v.category).sum + (13 * (names.length + 1) + 43) ≤ R.locals) (hRcells : cells + 1 ≤ R.cells) (hRslots : slots + 6 ≤ R.slots) (hlocks : meth.locks = false)
    (hx : ∀ t : State, s.vm.Alike t.vm → H.size ≤ t.heap.size → (∀ q : Nat, q < H.size → t.heap[q]? = H[q]?) → XC cls s t)
    (hf : ∀ z ∈ locs, free z.base) (hc : cells + 1 ≤ mc) (hs : slots + 6 ≤ ms) :
    W p l e R s m args below meth c H locs cells slots (vx_MQ below Qc XC args s mc ms free) (F0 m pc ls rest) := by
  intro T hT X
  have htr : e.platform.stackTraces = false := (show e.platform.stackTraces = l.stackTraces by rw [X.admits.platform]).trans hl
  have Y := vx_rebase X (R' := { frames := R.frames, locals := R.locals, cells := 1, slots := 6 }) (Nat.le_refl _) (Nat.le_refl _) hRcells hRslots
  obtain ⟨s', hA⟩ : ∃ z, z = (T.setVm s.vm).setFrames (.invoking m args :: below) := ⟨_, rfl⟩
  rw [← hA] at Y
  have hvm : s'.vm = s.vm := by rw [hA]; rfl
  have hhp : s'.heap = H := by rw [hA]; exact hT
  have hW0 : s.WarmedH s'.vm := by rw [hvm]; exact State.WarmedH.refl s
  have hat' : ∀ w ∈ vx_atS own ic cls names, w.before args s' = true := fun w hw => vx_ot_at hW0 hvm.symm (hgood w (List.mem_cons_of_mem _ (List.mem_cons_of_mem _ hw))) (hat w hw)
  have hk' : (Cond.classLink own ik cls).before args s' = true := vx_ot_at hW0 hvm.symm (hgood _ List.mem_cons_self) hk
  have hini' : (Cond.initialized cls).before args s' = true := vx_ot_at hW0 hvm.symm (hgood _ (List.mem_cons_of_mem _ List.mem_cons_self)) hini
  have hU' : vx_Zq Bundle.tN "UNASSIGNED_STACK" Bundle.steD A s' s'.heap := by rw [hhp]; exact vx_Zq.moved hW0.alike (hU.kept hS.2.1)
  have hN' : vx_Zq Bundle.tN "SUPPRESSED_SENTINEL" Bundle.listD A s' s'.heap := by rw [hhp]; exact vx_Zq.moved hW0.alike (hN.kept hS.2.1)
  have h : ∀ w ∈ Bundle.ownAtoms own ic cls names, w.before args s' = true := vx_own hat' (vx_isRefq hU'.1) (vx_isRefq hN'.1) hU'.2.word hN'.2.word
  have hown' : s'.vm.findClass own = some m.cls := by rw [hvm]; exact hown
  have hins : (Cond.instantiable cls 6).before args s' = true := h _ (by simp [Bundle.ownAtoms])
  obtain ⟨vm₁, cX, kX, hfX, hkX, -, -, X₁, st1⟩ := Y.newCold hexec (own := own) (C := cls) (index := ik) (n := 6) hown' hk' hins hini'
    (g := F0 m pc ls rest) rfl (by rw [hb]; exact d0) (Nat.le_refl _) (Nat.le_refl _)
  generalize hT1 : (T.setVm vm₁).pushCell { cls := cX, slots := kX.instanceTypes.map defaultValue, vm := .none } = T1 at X₁ st1
  have hcat : (Value.ref T.heap.size).category = 1 := rfl
  have hcellA : T1.heap[T.heap.size]? = some (freshCell cX kX) := by rw [← hT1]; exact State.heap_pushCell_size _ _
  have d3' : decode c.code (pc + 3) = .ok (.dup, 1) := by rw [hb]; exact d3
  have d4' : decode c.code (pc + 4) = .ok (.ldc is, 2) := by rw [hb]; exact d4
  have hstr' : vk_R own is text sa s' := vk_R.warm hW0 hstr
  obtain ⟨U, hsteps, hrun, hend, hW, hsame, ce, hce, hO⟩ := X₁.ctorThrowS hexec htr (own := own) (cls := cls) (names := names) (ic := ic) hown' hcls hnames h (fun x hx => nomatch hx) hfX hkX hcellA (by rw [hhp, hT]; exact Nat.le_refl _) (msg := .ref sa) rfl
    (g := { method := m, pc := pc + 6, locals := ls, stack := .ref sa :: .ref T.heap.size :: .ref T.heap.size :: rest, locked := none }) rfl hsize rfl rfl (rest := rest) rfl
    (by rw [hb]; exact d6) (by rw [hb]; exact d9) hout hRframes (by simp only [List.map_cons, List.sum_cons, hcat]; omega) hlocks
  obtain ⟨f1, f2⟩ := vx_frame hsame
  rw [hhp] at f1 f2
  have hWs : s.WarmedH U.vm := State.WarmedH.trans hW0 hW
  have hcl : s.vm.findClass cls = some ce.cls := by
    have h9 := hO.cls
    rw [hvm] at h9
    exact h9
  have hall : s.sameButNew ({ U with vm := s.vm } : State) locs mc ms := by
    subst hA
    obtain ⟨e1, e2⟩ := hsame
    rw [State.setFrames_setFrames] at e1
    have h2 : (T.setVm s.vm).sameButNew ({ U with vm := s.vm } : State) [] (0 + 1) (0 + 6) := ⟨e1, e2⟩
    have h3 := X.same.trans h2
    rw [List.append_nil] at h3
    exact h3.mono hc hs
  refine ⟨U, ?_, .threw T.heap.size, hrun, hend, Or.inr ⟨T.heap.size, rfl, cls, ce, locs, hx U hWs.alike f1 (fun q hq => f2 q hq (fun z hz => nomatch hz)), hce, hO.vm, hcl, hWs, hall, hf⟩⟩
  refine st1 _ ?_
  show Steps p.tables e below (T1.setTop { method := m, pc := pc + 3, locals := ls, stack := .ref T.heap.size :: rest, locked := none }) _
  jvm_step X₁.here [X₁.here.top, hexec, d3', Value.category]
  exact X₁.ldcString hexec (own := own) (text := text) (index := is) (a := sa) hown' hstr'.1 hstr'.2
    (g := { method := m, pc := pc + 4, locals := ls, stack := .ref T.heap.size :: .ref T.heap.size :: rest, locked := none }) rfl d4' _ hsteps
/-- 'throw new E("text")', the text by a wide index -/
theorem vx_throwSW {cc : ByteArray} {pc : Nat} (hexec : p.tables.exec = Jvm.exec) (hb : c.code = cc) (hl : l.stackTraces = false) {own cls text : String} {names : List String} {ik is ic mc ms sa : Nat} {A : Nat → Prop}
    (hown : s.vm.findClass own = some m.cls) (hcls : Bundle.fit cls = true) (hnames : ∀ n ∈ names, Bundle.fit n = true)
    (hk : (Cond.classLink own ik cls).before args s = true) (hini : (Cond.initialized cls).before args s = true) (hstr : vk_R own is text sa s) (hat : ∀ w ∈ vx_atS own ic cls names, w.before args s = true)
    (hgood : ∀ w ∈ Cond.classLink own ik cls :: Cond.initialized cls :: vx_atS own ic cls names, vx_ot w = true)
    (hU : vx_Zq Bundle.tN "UNASSIGNED_STACK" Bundle.steD A s s.heap) (hN : vx_Zq Bundle.tN "SUPPRESSED_SENTINEL" Bundle.listD A s s.heap) (hS : va_S A s.heap H locs) (hsize : ls.size = c.maxLocals)
    (d0 : decode cc pc = .ok (.new ik, 3)) (d3 : decode cc (pc + 3) = .ok (.dup, 1)) (d4 : decode cc (pc + 4) = .ok (.ldc_w is, 3)) (d7 : decode cc (pc + 7) = .ok (.invokespecial ic, 3)) (d10 : decode cc (pc + 10) = .ok (.athrow, 1))
    (hout : ∀ x ∈ c.exceptionTable.toList, covers x (pc + 10) = false)
    (hRframes : names.length + 3 < R.frames) (hRlocals : (rest.map fun v => v.category).sum + (13 * (names.length + 1) + 43) ≤ R.locals) (hRcells : cells + 1 ≤ R.cells) (hRslots : slots + 6 ≤ R.slots) (hlocks : meth.locks = false)
    (hx : ∀ t : State, s.vm.Alike t.vm → H.size ≤ t.heap.size → (∀ q : Nat, q < H.size → t.heap[q]? = H[q]?) → XC cls s t)
    (hf : ∀ z ∈ locs, free z.base) (hc : cells + 1 ≤ mc) (hs : slots + 6 ≤ ms) :
    W p l e R s m args below meth c H locs cells slots (vx_MQ below Qc XC args s mc ms free) (F0 m pc ls rest) := by
  intro T hT X
  have htr : e.platform.stackTraces = false := (show e.platform.stackTraces = l.stackTraces by rw [X.admits.platform]).trans hl
  have Y := vx_rebase X (R' := { frames := R.frames, locals := R.locals, cells := 1, slots := 6 }) (Nat.le_refl _) (Nat.le_refl _) hRcells hRslots
  obtain ⟨s', hA⟩ : ∃ z, z = (T.setVm s.vm).setFrames (.invoking m args :: below) := ⟨_, rfl⟩
  rw [← hA] at Y
  have hvm : s'.vm = s.vm := by rw [hA]; rfl
  have hhp : s'.heap = H := by rw [hA]; exact hT
  have hW0 : s.WarmedH s'.vm := by rw [hvm]; exact State.WarmedH.refl s
  have hat' : ∀ w ∈ vx_atS own ic cls names, w.before args s' = true := fun w hw => vx_ot_at hW0 hvm.symm (hgood w (List.mem_cons_of_mem _ (List.mem_cons_of_mem _ hw))) (hat w hw)
  have hk' : (Cond.classLink own ik cls).before args s' = true := vx_ot_at hW0 hvm.symm (hgood _ List.mem_cons_self) hk
  have hini' : (Cond.initialized cls).before args s' = true := vx_ot_at hW0 hvm.symm (hgood _ (List.mem_cons_of_mem _ List.mem_cons_self)) hini
  have hU' : vx_Zq Bundle.tN "UNASSIGNED_STACK" Bundle.steD A s' s'.heap := by rw [hhp]; exact vx_Zq.moved hW0.alike (hU.kept hS.2.1)
  have hN' : vx_Zq Bundle.tN "SUPPRESSED_SENTINEL" Bundle.listD A s' s'.heap := by rw [hhp]; exact vx_Zq.moved hW0.alike (hN.kept hS.2.1)
  have h : ∀ w ∈ Bundle.ownAtoms own ic cls names, w.before args s' = true := vx_own hat' (vx_isRefq hU'.1) (vx_isRefq hN'.1) hU'.2.word hN'.2.word
  have hown' : s'.vm.findClass own = some m.cls := by rw [hvm]; exact hown
  have hins : (Cond.instantiable cls 6).before args s' = true := h _ (by simp [Bundle.ownAtoms])
  obtain ⟨vm₁, cX, kX, hfX, hkX, -, -, X₁, st1⟩ := Y.newCold hexec (own := own) (C := cls) (index := ik) (n := 6) hown' hk' hins hini'
    (g := F0 m pc ls rest) rfl (by rw [hb]; exact d0) (Nat.le_refl _) (Nat.le_refl _)
  generalize hT1 : (T.setVm vm₁).pushCell { cls := cX, slots := kX.instanceTypes.map defaultValue, vm := .none } = T1 at X₁ st1
  have hcat : (Value.ref T.heap.size).category = 1 := rfl
  have hcellA : T1.heap[T.heap.size]? = some (freshCell cX kX) := by rw [← hT1]; exact State.heap_pushCell_size _ _
  have d3' : decode c.code (pc + 3) = .ok (.dup, 1) := by rw [hb]; exact d3
  have d4' : decode c.code (pc + 4) = .ok (.ldc_w is, 3) := by rw [hb]; exact d4
  have hstr' : vk_R own is text sa s' := vk_R.warm hW0 hstr
  obtain ⟨U, hsteps, hrun, hend, hW, hsame, ce, hce, hO⟩ := X₁.ctorThrowS hexec htr (own := own) (cls := cls) (names := names) (ic := ic) hown' hcls hnames h (fun x hx => nomatch hx) hfX hkX hcellA (by rw [hhp, hT]; exact Nat.le_refl _) (msg := .ref sa) rfl
    (g := { method := m, pc := pc + 7, locals := ls, stack := .ref sa :: .ref T.heap.size :: .ref T.heap.size :: rest, locked := none }) rfl hsize rfl rfl (rest := rest) rfl
    (by rw [hb]; exact d7) (by rw [hb]; exact d10) hout hRframes (by simp only [List.map_cons, List.sum_cons, hcat]; omega) hlocks
  obtain ⟨f1, f2⟩ := vx_frame hsame
  rw [hhp] at f1 f2
  have hWs : s.WarmedH U.vm := State.WarmedH.trans hW0 hW
  have hcl : s.vm.findClass cls = some ce.cls := by
    have h9 := hO.cls
    rw [hvm] at h9
    exact h9
  have hall : s.sameButNew ({ U with vm := s.vm } : State) locs mc ms := by
    subst hA
    obtain ⟨e1, e2⟩ := hsame
    rw [State.setFrames_setFrames] at e1
    have h2 : (T.setVm s.vm).sameButNew ({ U with vm := s.vm } : State) [] (0 + 1) (0 + 6) := ⟨e1, e2⟩
    have h3 := X.same.trans h2
    rw [List.append_nil] at h3
    exact h3.mono hc hs
  refine ⟨U, ?_, .threw T.heap.size, hrun, hend, Or.inr ⟨T.heap.size, rfl, cls, ce, locs, hx U hWs.alike f1 (fun q hq => f2 q hq (fun z hz => nomatch hz)), hce, hO.vm, hcl, hWs, hall, hf⟩⟩
  refine st1 _ ?_
  show Steps p.tables e below (T1.setTop { method := m, pc := pc + 3, locals := ls, stack := .ref T.heap.size :: rest, locked := none }) _
  jvm_step X₁.here [X₁.here.top, hexec, d3', Value.category]
  exact X₁.ldcStringW hexec (own := own) (text := text) (index := is) (a := sa) hown' hstr'.1 hstr'.2
    (g := { method := m, pc := pc + 4, locals := ls, stack := .ref T.heap.size :: .ref T.heap.size :: rest, locked := none }) rfl d4' _ hsteps
end Ends
section Bodies
variable {l : Launch}
theorem vx_ofW {y : MethodName} {ws ws' : List Cond} {rm : Room} {Pc : Array Value → State → Prop} {Qc : Array Value → State → Outcome → State → Prop} {XC : String → State → State → Prop} {mc ms : Nat} {free : Addr → Prop} {cc : ByteArray} {maxL : Nat} {ret : Option FieldType}
    (hy : plainName y.cls = true) (hw : ws = Cond.code y cc maxL ret :: ws')
    (body : ∀ p e s m args below meth c s₁, BodyLoose p l y (headSpec ws rm) cc maxL ret e s m args below meth c s₁ → c.maxLocals = maxL → (∀ x ∈ c.exceptionTable.toList, False) → Pc args s →
      W p l e (headSpec ws rm).room s m args below meth c s.heap [] 0 0 (vx_MQ below Qc XC args s mc ms free) (entryFrame m args maxL)) : vx_Met l y ws rm Pc Qc XC mc ms free := by
  refine MetFree.of_bodyS (code := cc) (maxLocals := maxL) (ret := ret) hy ?_ ?_
  · intro args s m h hn
    obtain ⟨meth, c, h1, h2, h3, h4, h5, h6, -, -⟩ := Cond.code_spec hn (atoms_spec (ws := ws) h _ (by rw [hw]; exact List.mem_cons_self))
    exact ⟨meth, c, h1, h2, h3, h4, h5, h6⟩
  · intro p e s m args below meth c s₁ B hml hP _
    have hh0 : s₁.heap = s.heap := by rw [B.state]; rfl
    have ht : ∀ x ∈ c.exceptionTable.toList, False := by
      obtain ⟨meth9, c9, h1, h2, -, -, -, -, h7, -⟩ := Cond.code_spec B.named (atoms_spec (ws := ws) B.pre _ (by rw [hw]; exact List.mem_cons_self))
      cases Option.some.inj (h1.symm.trans B.method)
      cases Option.some.inj (h2.symm.trans (Stand.of_body B).code)
      intro x hx
      rw [Array.isEmpty_iff.mp h7] at hx
      cases hx
    obtain ⟨t, a1, o, b1, b2, b3⟩ := body p e s m args below meth c s₁ B hml ht hP s₁ hh0 (Stand.of_body B)
    exact ⟨t, o, a1, b1, b2, b3⟩
/-- the table of a body with handlers -/
theorem vx_table {p : Program} {x y : MethodName} {S : Spec} {cc bytes : ByteArray} {maxL maxL' : Nat} {ret ret' : Option FieldType} {e : Env} {s s₁ : State} {m : MethodId} {args : Array Value} {below : List Frame} {meth : Method} {c : Code} {hh : List (Nat × Nat × Nat × Nat)}
    (B : BodyLoose p l y S cc maxL ret e s m args below meth c s₁) (h : (Cond.codeWith y bytes maxL' ret' hh).before args s = true) : c.exceptionTable.toList = tableOf hh := by
  obtain ⟨m9, meth9, c9, hn9, h1, h2, -, -, h6, -⟩ := Cond.codeWith_spec h
  cases Option.some.inj (hn9.symm.trans B.named)
  cases Option.some.inj (h1.symm.trans B.method)
  cases Option.some.inj (h2.symm.trans (Stand.of_body B).code)
  rw [← h6, table_eq]
end Bodies
end VXA
/-! ===== END ===== -/
/-! ===== BEGIN a static call of a method with an exception table ===== -/
section VXS
variable {p : Program} {l : Launch} {e : Env} {R : Room} {s : State} {m : MethodId} {args : Array Value} {below : List Frame} {meth : Method} {c : Code} {T : State} {H : Heap} {locs : List Loc} {cells slots : Nat}
abbrev vx_CSW (R : Room) (s : State) (args : Array Value) (own : String) (index : Nat) (y : MethodName) (bytes : ByteArray) (maxL : Nat) (ret : Option FieldType) (hh : List (Nat × Nat × Nat × Nat)) (ws : List Cond) (rm : Room) (mc ms n : Nat) : Prop :=
  (rm.cells = mc ∧ rm.slots = ms ∧ rm.frames + 1 ≤ R.frames ∧ 8 + (maxL + 11) + rm.locals ≤ R.locals ∧ (∀ w ∈ ws, ∀ (a' : Array Value) (U : State), s.WarmedH U.vm → w.before a' U = true) ∧ Cond.codeWith y bytes maxL ret hh ∈ ws) ∧
  (Cond.codeWith y bytes maxL ret hh).before args s = true ∧ (Cond.initialized y.cls).before args s = true ∧ (y.cls ≠ "java/lang/invoke/MethodHandle" ∧ y.cls ≠ "java/lang/invoke/VarHandle") ∧
  (∀ sig, parseMethodDescriptor y.desc = some sig → n = sig.parameters.length) ∧ (Cond.methodLink own index y).before args s = true ∧ (Cond.static y).before args s = true
theorem vx_cwSW {own : String} {index maxL mc ms : Nat} {y : MethodName} {bytes : ByteArray} {ret : Option FieldType} {hh : List (Nat × Nat × Nat × Nat)} {Ts ws ws' : List Cond} {rm : Room} (n : Nat) (ht : ∀ w ∈ Ts, w.before args s = true) (hT : GoodIn Ts (va_wsS own index y ws)) (hw : ws = Cond.codeWith y bytes maxL ret hh :: ws') (hrc : rm.cells = mc) (hrs : rm.slots = ms)
    (hd : y.cls ≠ "java/lang/invoke/MethodHandle" ∧ y.cls ≠ "java/lang/invoke/VarHandle" ∧ (parseMethodDescriptor y.desc).map (fun d => d.parameters.length) = some n) (hR : rm.frames + 1 ≤ R.frames ∧ 8 + (maxL + 11) + rm.locals ≤ R.locals) :
    vx_CSW R s args own index y bytes maxL ret hh ws rm mc ms n := by
  have ok : ∀ w ∈ va_wsS own index y ws, w.before args s = true := fun w h => ht w (hT w h).1
  have hG : GoodIn Ts ws := fun w h => hT w (by unfold va_wsS; exact List.mem_append_right _ h)
  have hc : Cond.codeWith y bytes maxL ret hh ∈ ws := by rw [hw]; exact List.mem_cons_self
  refine ⟨⟨hrc, hrs, hR.1, hR.2, pay_in ht hG, hc⟩, ht _ (hG _ hc).1, ok _ (by simp [va_wsS]), ⟨hd.1, hd.2.1⟩, fun sig h => ?_, ok _ (by simp [va_wsS]), ok _ (by simp [va_wsS])⟩
  have h2 := hd.2.2
  rw [h] at h2
  exact (Option.some.inj h2).symm
theorem vx_callSW (X : Stand p l e R s m args below meth c T locs cells slots) (hexec : p.tables.exec = Jvm.exec) {own : String} {index : Nat} {y : MethodName} {bytes : ByteArray} {maxL : Nat} {ret : Option FieldType} {hh : List (Nat × Nat × Nat × Nat)}
    (hown : s.vm.findClass own = some m.cls) (hlink : (Cond.methodLink own index y).before args s = true) (hstat : (Cond.static y).before args s = true) (hinit : (Cond.initialized y.cls).before args s = true)
    (hcode : (Cond.codeWith y bytes maxL ret hh).before args s = true) (hy : y.cls ≠ "java/lang/invoke/MethodHandle" ∧ y.cls ≠ "java/lang/invoke/VarHandle")
    {W9 : Nat} {Pre : Pt → Array Value → Prop} {Post : Pt → Array Value → Option Value → Pt → Prop} (hK : Back l R p e below s args y 3 W9 Pre Post)
    {g : JFrame} (hg : g.method = m) (hsize : g.locals.size = c.maxLocals) {argsL rest : List Value} (hlen : ∀ sig, parseMethodDescriptor y.desc = some sig → argsL.length = sig.parameters.length)
    (hstack : g.stack = argsL.reverse ++ rest) (hW : 2 * g.monitorRoom + (rest.map fun v => v.category).sum ≤ W9) (hdg : decode c.code g.pc = .ok (.invokestatic index, 3))
    (hpre : ∀ vm₁, s.WarmedH vm₁ → Pre ⟨T.setVm vm₁, locs, cells, slots⟩ argsL.toArray) :
    ∃ (v : Option Value) (vm₁ : Vm) (B : Pt), s.WarmedH vm₁ ∧ Stand p l e R s m args below meth c B.U B.locs B.cells B.slots ∧ Post ⟨T.setVm vm₁, locs, cells, slots⟩ argsL.toArray v B ∧
      ∀ target, Steps p.tables e below (B.U.setTop { g with pc := g.pc + 3, stack := v.toList ++ rest }) target → Steps p.tables e below (T.setTop g) target := by
  obtain ⟨mk, methM, cM, hnamed, hmethM, -, -, -, -, -, -, hsigM⟩ := Cond.codeWith_spec hcode
  have hstatic : methM.isStatic = true := Cond.static_spec hnamed hmethM hstat
  obtain ⟨kP, hkP, -⟩ := className_of_methodNamed hnamed
  have hinitP : kP.init = .initialized := Cond.initialized_spec (findClass_of_methodNamed hnamed) hkP hinit
  obtain ⟨vm₁, X₁, hstep₁⟩ := X.invokestatic hexec hown hlink hnamed hmethM hstatic hkP hinitP hy (g := g) hg (argsL := argsL) (rest := rest) (hlen _ hsigM) hstack hdg
  obtain ⟨v, B, X', hpost, hsteps⟩ := hK m meth c ⟨T.setVm vm₁, locs, cells, slots⟩ { g with stack := rest } (.invokestatic index) mk argsL.toArray X₁ hg hsize hdg hW (X₁.named hnamed) (hpre vm₁ X₁.warmed)
  exact ⟨v, vm₁, B, X₁.warmed, X', hpost, fun target h => hstep₁ _ fun acts => by rw [doInvoke_state]; exact hsteps.trans h⟩
theorem vx_runSW {y : MethodName} {bytes cc : ByteArray} {maxL nL mc ms n index : Nat} {ret : Option FieldType} {hh : List (Nat × Nat × Nat × Nat)} {ws : List Cond} {rm : Room} {Pc : Array Value → State → Prop} {Qc : Array Value → State → Outcome → State → Prop} {free : Addr → Prop} {Ts : List Cond} {own : String} {As rest : List Value} {g : JFrame}
    (S : CallFix p m c cc nL s args Ts own) (hM : Met l y ws rm Pc Qc mc ms free) (cw : vx_CSW R s args own index y bytes maxL ret hh ws rm mc ms n) (hp : PreS s H Pc As)
    (hg : g.method = m) (hn : As.length = n) (hsize : g.locals.size = nL) (hstack : g.stack = As.reverse ++ rest) (hW : 2 * g.monitorRoom + (rest.map fun v => v.category).sum ≤ 8) (hdg : decode cc g.pc = .ok (.invokestatic index, 3)) (hf : cells + mc ≤ R.cells ∧ slots + ms ≤ R.slots) :
    va_Run p l e R s m args below meth c H locs cells slots mc ms g rest (Qc As.toArray) (free) := by
  obtain ⟨⟨hrc, hrs, hfr, hlo, hws, hcw⟩, hcode, hini, hy, hlen, hl, hstt⟩ := cw
  have hK : Back l R p e below s args y 3 8 (PreOf R mc ms Pc) (PostOf Qc mc ms free) := va_backW (hh := hh) (bytes := bytes) (maxL := maxL) (ret := ret) hM hp.1 hrc hrs hfr hlo hws hcw (fun a' U hW => word_at hW (Or.inl (by first | rfl | simp [Cond.onTables, Cond.keeps, Cond.steady])) hini)
  obtain ⟨hx, hb, hml, ho, -⟩ := S
  intro T hT X
  obtain ⟨v, vm₁, ⟨U', l2, c2, s2⟩, hW₁, X', ⟨g', mk, t, L, e1, e2, hq, h1, hL, h2, h3⟩, st⟩ := vx_callSW X hx (hh := hh) (bytes := bytes) (maxL := maxL) (ret := ret) ho hl hstt hini hcode hy hK hg (hsize.trans hml.symm) (argsL := As) (rest := rest) (fun sig h => hn.trans (hlen sig h)) hstack hW (by rw [hb]; exact hdg)
    (fun vm₁ hW₁ => ⟨hf.1, hf.2, hp.2 (T.setVm vm₁) hT hW₁⟩)
  dsimp only [Pt.U, Pt.locs, Pt.cells, Pt.slots] at X' e1 e2 h1 h2 h3 st
  subst h1; subst h2; subst h3
  exact ⟨v, (T.setVm vm₁).calling g' mk As.toArray, t, U', L, hT, X', hL, e1, e2, hq, st⟩
/-- not caught here, past rows that name other classes: it goes on to the caller -/
theorem vx_outP {p : Program} {l : Launch} {e : Env} {R : Room} {s : State} {m : MethodId} {args : Array Value} {below : List Frame} {meth : Method} {c : Code} {H : Heap} {locs : List Loc} {cells slots : Nat} {free : Addr → Prop} {ls : Array Slot} {rest : List Value} {Qc : Array Value → State → Outcome → State → Prop} {XC : String → State → State → Prop}
    {pc : Nat} {own E : String} {ce : Cell} {q : Addr} {mc ms : Nat} (hown : s.vm.findClass own = some m.cls) (hlocks : meth.locks = false)
    (hpass : ∀ z ∈ c.exceptionTable.toList, covers z pc = false ∨ (z.catchType ≠ 0 ∧ ∃ nm : String, (Cond.classLink own z.catchType nm).before args s = true ∧ va_Nc E nm s)) (hcell : H[q]? = some ce) (hv : ce.vm = .none) (hcl : s.vm.findClass E = some ce.cls)
    (hx : ∀ t : State, t.heap = H → s.vm.Alike t.vm → XC E s t) (hf : ∀ z ∈ locs, free z.base) (hc : cells ≤ mc) (hs : slots ≤ ms) :
    vx_W p l e R s m args below meth c H locs cells slots (vx_MQ below Qc XC args s mc ms free) (F0 m pc ls rest) q := by
  intro T hT X
  have hpl : e.platform.magicAccessors = ({} : Platform).magicAccessors := by rw [X.admits.platform]
  obtain ⟨vm', hW', X', st⟩ := X.outThrough hlocks q (g := F0 m pc ls rest) rfl rfl rfl (cell := ce) (by rw [hT]; exact hcell) (by rw [hv]; rfl)
    (by obtain ⟨k9, h9, -⟩ := Vm.findClass_spec hcl; exact ⟨k9, h9⟩) (fun z hz => by
      rcases hpass z hz with h | ⟨hz0, nm, hl1, hn1⟩
      · exact Or.inl h
      · obtain ⟨c6, hc6, hcl6⟩ := Cond.classLink_spec hown hl1 e.platform hpl
        obtain ⟨a8, b8, h1, h2, h3⟩ := hn1
        cases Option.some.inj (h1.symm.trans hcl)
        cases Option.some.inj (h2.symm.trans hc6)
        exact Or.inr ⟨hz0, _, hcl6, h3⟩)
  obtain ⟨g₀, hfr⟩ := X'.frames_eq
  have hcell9 : ((T.setVm vm').setFrames (.throwing q :: below)).heap[q]? = some ce := by
    show T.heap[q]? = some ce
    rw [hT]; exact hcell
  have hend : Ended ((T.setVm vm').setFrames (.throwing q :: below)) below (.threw q) := State.frames_setFrames _ (State.cur_lt_of_frames hfr)
  refine ⟨(T.setVm vm').setFrames (.throwing q :: below), ?_, .threw q, X'.here.running, hend, Or.inr ⟨q, rfl, E, ce, locs, hx _ hT (X'.ends _).1.alike, hcell9, hv, hcl, (X'.ends _).1, (X'.ends _).2.mono hc hs, hf⟩⟩
  rw [X.pushThrowing_eq]
  exact st
/-- a thing of a world lies in the heap -/
theorem vx_lt {D : va_G} {cl : List vw_C} {ws : va_W} {H1 : Heap} (h : va_P D cl ws H1) {k : Nat} {q : Nat × va_E} (hk : ws[k]? = some q) : q.1 < H1.size := (h k q hk).lt
end VXS
/-! ===== END ===== -/
/-! ===== BEGIN methods with a table of their own: called by a name, returning or throwing ===== -/
section VXH
/-! vx_backW, vx_callVX, vx_callSX, vx_callVW, vx_runVW, vx_runVX, vx_runSX, vx_ofWH follow the same proofs as their sisters above (Free/Laws.lean, Shelf42/LK1.lean); vx_outP calls Shelf42/NT130.lean (outThrough). -/
section
variable {l : Launch} {R : Room} {p : Program} {e : Env} {below : List Frame} {s : State} {sargs : Array Value} {y : MethodName} {len W9 : Nat}
theorem vx_backW {ws : List Cond} {rm : Room} {Pc : Array Value → State → Prop} {Qc : Array Value → State → Outcome → State → Prop} {XC : String → State → State → Prop} {mc ms : Nat} {free : Addr → Prop} {bytes : ByteArray} {maxL : Nat} {ret : Option FieldType} {hh : List (Nat × Nat × Nat × Nat)}
    (hM : vx_Met l y ws rm Pc Qc XC mc ms free) (hblind : FrameBlind Pc) (hrc : rm.cells = mc) (hrs : rm.slots = ms)
    (hframes : rm.frames + 1 ≤ R.frames) (hlocals : W9 + (maxL + 11) + rm.locals ≤ R.locals)
    (hws : ∀ w ∈ ws, ∀ a' U, s.WarmedH U.vm → w.before a' U = true) (hcode : Cond.codeWith y bytes maxL ret hh ∈ ws) (hinit : ∀ a' U, s.WarmedH U.vm → (Cond.initialized y.cls).before a' U = true) :
    vx_Back l R p e below s sargs y len W9 (PreOf R mc ms Pc) (PostOf Qc mc ms free) (vx_Post XC mc ms free) := by
  intro m meth c A g ig mk a X hg hsize hdg hW hn hp
  have h1 : (headSpec ws rm).pre.before a A.U = true := atoms_intro fun w hw => hws w hw _ _ X.warmed
  have h2 : (Cond.codeWith y bytes maxL ret hh).before a A.U = true := hws _ hcode _ _ X.warmed
  have h3 : (Cond.initialized y.cls).before a A.U = true := hinit _ _ X.warmed
  have h4 : A.cells + (headSpec ws rm).room.cells ≤ R.cells := by rw [show (headSpec ws rm).room.cells = mc from hrc]; exact hp.1
  have h5 : A.slots + (headSpec ws rm).room.slots ≤ R.slots := by rw [show (headSpec ws rm).room.slots = ms from hrs]; exact hp.2.1
  have hPc : Pc a (A.U.calling g mk a) := hblind _ _ _ _ hp.2.2
  obtain ⟨U, Ls, c0, s0⟩ := A
  dsimp only [Pt.U, Pt.locs, Pt.cells, Pt.slots] at h1 h2 h3 h4 h5 X hn hPc ⊢
  obtain ⟨m9, methY, cY, hn9, hmY, hcY, -, hlY, -⟩ := Cond.codeWith_spec h2
  cases Option.some.inj (hn9.symm.trans hn)
  obtain ⟨kY, hkY, -⟩ := className_of_methodNamed hn
  have hinitY : kY.init = .initialized := Cond.initialized_spec (findClass_of_methodNamed hn) hkY h3
  have h : At U g.method c below := by rw [hg]; exact X.here
  have hlocals9 : W9 + (maxL + 11) + (headSpec ws rm).room.locals ≤ R.locals := hlocals
  have happ : (headSpec ws rm).appliesLoose y e.platform (U.calling g mk a) = true :=
    Spec.appliesLoose_calling (g := g) h hdg hn hkY hinitY
      (X.room_calling (g := g) (R' := (headSpec ws rm).room) hsize hmY hcY hframes (by rw [hlY]; omega) h4 h5) h1
  obtain ⟨mid, hmid⟩ := h.above
  have hfr : (U.setTop g).frames = (.java g :: mid) ++ below := by rw [State.frames_setTop' g h.top, hmid]; rfl
  obtain ⟨o, s₂, hsteps, -, hend, hq⟩ := Steps.callFree hM p X.admits X.cas X.clock (acts := []) hfr happ hPc trivial
  have hq' : vx_Q Qc XC mc ms free a (U.calling g mk a) o s₂ := hq
  rw [State.frames_setTop' g h.top] at hend
  obtain ⟨g₀, hg0⟩ := Option.isSome_iff_exists.mp h.top
  obtain ⟨r, hr⟩ := State.topJava?_eq_some.mp hg0
  have hr' : (({ U with heap := s₂.heap, slotsUsed := s₂.slotsUsed } : State).setVm s₂.vm).frames = .java g₀ :: r := hr
  rcases hq' with ⟨hqc, L, hfe, hL⟩ | ⟨q, rfl, E, ce, L, hx, hce, hcv, hcl, hW₂, hsm, hL⟩
  · obtain ⟨⟨v, rfl⟩, hW₂, e2, q2, q3, q4, q5, q6⟩ := id hfe
    have e3 : s₂ = ({ (U.calling g mk a).setFrames s₂.frames with heap := s₂.heap, slotsUsed := s₂.slotsUsed } : State).setVm s₂.vm := by
      have : s₂ = ({ s₂ with vm := (U.calling g mk a).vm } : State).setVm s₂.vm := rfl
      rw [e2] at this
      exact this
    obtain ⟨c₂, i₂, len₂, hc₂, hd₂, hf₂⟩ := hend
    have hW' : U.WarmedH s₂.vm := hW₂
    have hcc : c₂ = c := by
      have h1 : s₂.code? g.method = U.code? g.method := by
        rw [State.code?_eq, State.code?_eq, hW'.alike.method?]
      exact Option.some.inj (hc₂.symm.trans (h1.trans h.code))
    subst hcc
    have hlen : len₂ = len := by rw [hdg] at hd₂; cases hd₂; rfl
    subst hlen
    have hs₂ : s₂ = (({ U with heap := s₂.heap, slotsUsed := s₂.slotsUsed } : State).setVm s₂.vm).setTop { g with pc := g.pc + len₂, stack := v.toList ++ g.stack } := by
      refine e3.trans ?_
      rw [hf₂, State.calling_eq h.top, State.setFrames_setFrames, State.setTop_of_frames _ hr', hr]
      rfl
    have hsame : U.sameButNew ({ U with heap := s₂.heap, slotsUsed := s₂.slotsUsed } : State) L mc ms := by
      refine ⟨?_, q2, q3, q4, q5, q6⟩
      obtain ⟨t, ht, -⟩ := State.frames_cons hr
      show ({ U with heap := s₂.heap, slotsUsed := s₂.slotsUsed } : State) = { U.setFrames U.frames with heap := s₂.heap, slotsUsed := s₂.slotsUsed }
      rw [State.setFrames_self ht]
    subst hg
    refine Or.inl ⟨v, ⟨(({ U with heap := s₂.heap, slotsUsed := s₂.slotsUsed } : State).setVm s₂.vm), Ls ++ L, c0 + mc, s0 + ms⟩,
      ⟨X.admits, X.cas, X.clock, X.frames, X.room, X.hears, X.method, X.code, (X.here.setHeapUsed s₂.heap s₂.slotsUsed).setVm hW'.alike, X.tail, State.WarmedH.trans X.warmed hW', X.limits, X.bytes, X.same.trans (hsame.setVm s.vm)⟩,
      ⟨g, mk, s₂, L, rfl, rfl, hqc, rfl, hL, rfl, rfl⟩, ?_⟩
    show Steps p.tables e below _ ((({ U with heap := s₂.heap, slotsUsed := s₂.slotsUsed } : State).setVm s₂.vm).setTop { g with pc := g.pc + len₂, stack := v.toList ++ g.stack })
    rw [← hs₂]
    exact hsteps
  · obtain ⟨e2, q2, q3, q4, q5, q6⟩ := id hsm
    have e3 : s₂ = ({ (U.calling g mk a).setFrames s₂.frames with heap := s₂.heap, slotsUsed := s₂.slotsUsed } : State).setVm s₂.vm := by
      have : s₂ = ({ s₂ with vm := (U.calling g mk a).vm } : State).setVm s₂.vm := rfl
      rw [e2] at this
      exact this
    have hf₂ : s₂.frames = .throwing q :: .java g :: U.frames.tail := hend
    have hW' : U.WarmedH s₂.vm := hW₂
    have hs₂ : s₂ = ((({ U with heap := s₂.heap, slotsUsed := s₂.slotsUsed } : State).setVm s₂.vm).setTop g).pushFrame (.throwing q) := by
      refine e3.trans ?_
      rw [hf₂, State.calling_eq h.top, State.setFrames_setFrames, State.pushFrame, State.frames_setTop _ hr', State.setTop_of_frames _ hr', State.setFrames_setFrames, hr]
      rfl
    have hsame : U.sameButNew ({ U with heap := s₂.heap, slotsUsed := s₂.slotsUsed } : State) L mc ms := by
      refine ⟨?_, q2, q3, q4, q5, q6⟩
      obtain ⟨t, ht, -⟩ := State.frames_cons hr
      show ({ U with heap := s₂.heap, slotsUsed := s₂.slotsUsed } : State) = { U.setFrames U.frames with heap := s₂.heap, slotsUsed := s₂.slotsUsed }
      rw [State.setFrames_self ht]
    subst hg
    refine Or.inr ⟨q, ⟨(({ U with heap := s₂.heap, slotsUsed := s₂.slotsUsed } : State).setVm s₂.vm), Ls ++ L, c0 + mc, s0 + ms⟩,
      ⟨X.admits, X.cas, X.clock, X.frames, X.room, X.hears, X.method, X.code, (X.here.setHeapUsed s₂.heap s₂.slotsUsed).setVm hW'.alike, X.tail, State.WarmedH.trans X.warmed hW', X.limits, X.bytes, X.same.trans (hsame.setVm s.vm)⟩,
      ⟨g, mk, s₂, L, E, ce, rfl, rfl, hx, hce, hcv, hcl, rfl, hL, rfl, rfl⟩, ?_⟩
    show Steps p.tables e below _ (((({ U with heap := s₂.heap, slotsUsed := s₂.slotsUsed } : State).setVm s₂.vm).setTop g).pushFrame (.throwing q))
    rw [← hs₂]
    exact hsteps
end
variable {p : Program} {l : Launch} {e : Env} {R : Room} {s : State} {m : MethodId} {args : Array Value} {below : List Frame} {meth : Method} {c : Code} {T : State} {H : Heap} {locs : List Loc} {cells slots : Nat}
theorem vx_callVX (X : Stand p l e R s m args below meth c T locs cells slots) (hexec : p.tables.exec = Jvm.exec) {own C : String} {index : Nat} {y : MethodName} {bytes : ByteArray} {maxL : Nat} {ret : Option FieldType} {hh : List (Nat × Nat × Nat × Nat)}
    (hown : s.vm.findClass own = some m.cls) (hlink : (Cond.methodLink own index y).before args s = true) (hinst : (Cond.instanceMethod y).before args s = true) (hsel : (Cond.selects C y y).before args s = true)
    (hcode : (Cond.codeWith y bytes maxL ret hh).before args s = true) (hy : y.cls ≠ "java/lang/invoke/MethodHandle" ∧ y.cls ≠ "java/lang/invoke/VarHandle")
    {W9 : Nat} {Pre : Pt → Array Value → Prop} {Post : Pt → Array Value → Option Value → Pt → Prop} {PostX : Pt → Array Value → Addr → Pt → Prop} (hK : vx_Back l R p e below s args y 3 W9 Pre Post PostX)
    {b : Addr} {cellB : Cell} (hcell : T.heap[b]? = some cellB) (hobj : cellB.vm.isStatics = false) (hcls : s.vm.findClass C = some cellB.cls)
    {g : JFrame} (hg : g.method = m) (hsize : g.locals.size = c.maxLocals) {argsL rest : List Value} (hlen : ∀ sig, parseMethodDescriptor y.desc = some sig → argsL.length = sig.parameters.length)
    (hstack : g.stack = argsL.reverse ++ .ref b :: rest) (hW : 2 * g.monitorRoom + (rest.map fun v => v.category).sum ≤ W9) (hdg : decode c.code g.pc = .ok (.invokevirtual index, 3))
    (hpre : ∀ vm₁, s.WarmedH vm₁ → Pre ⟨T.setVm vm₁, locs, cells, slots⟩ (Value.ref b :: argsL).toArray) :
    (∃ (v : Option Value) (vm₁ : Vm) (B : Pt), s.WarmedH vm₁ ∧ Stand p l e R s m args below meth c B.U B.locs B.cells B.slots ∧ Post ⟨T.setVm vm₁, locs, cells, slots⟩ (Value.ref b :: argsL).toArray v B ∧
      ∀ target, Steps p.tables e below (B.U.setTop { g with pc := g.pc + 3, stack := v.toList ++ rest }) target → Steps p.tables e below (T.setTop g) target) ∨
    (∃ (q : Addr) (vm₁ : Vm) (B : Pt), s.WarmedH vm₁ ∧ Stand p l e R s m args below meth c B.U B.locs B.cells B.slots ∧ PostX ⟨T.setVm vm₁, locs, cells, slots⟩ (Value.ref b :: argsL).toArray q B ∧
      Steps p.tables e below (T.setTop g) ((B.U.setTop { g with stack := rest }).pushFrame (.throwing q))) := by
  obtain ⟨mk, methM, hnamed, hmethM, hstM, habM⟩ := Cond.instanceMethod_spec hinst
  obtain ⟨m8, methM', cM, hn8, hmethM', -, -, -, -, -, -, hsigM⟩ := Cond.codeWith_spec hcode
  cases Option.some.inj (hn8.symm.trans hnamed)
  cases hmethM.symm.trans hmethM'
  obtain ⟨c2, r2, m2, q1, q2, q3, q4, kP, hkP, hkPi⟩ := Cond.selects_spec hsel
  cases hcls.symm.trans q1
  cases (State.methodFound?_of_named hnamed hy).symm.trans q2
  cases hnamed.symm.trans q3
  have hselP : selectMethod e.platform s.vm cellB.cls mk = .method mk := by rw [Launch.admits_selectMethod X.admits]; exact q4
  obtain ⟨vm₁, X₁, hstep₁⟩ := X.invokevirtual hexec hown hlink hnamed hmethM hstM hkP hkPi hy (a := b) (cell := cellB) hcell
    (fun z h => by rw [h] at hobj; cases hobj) hselP hmethM habM hkP hkPi (g := g) hg (argsL := argsL) (rest := rest) (hlen _ hsigM) hstack hdg
  rcases hK m meth c ⟨T.setVm vm₁, locs, cells, slots⟩ { g with stack := rest } (.invokevirtual index) mk (Value.ref b :: argsL).toArray X₁ hg hsize hdg hW (X₁.named hnamed) (hpre vm₁ X₁.warmed) with ⟨v, B, X', hpost, hsteps⟩ | ⟨q, B, X', hpost, hsteps⟩
  · exact Or.inl ⟨v, vm₁, B, X₁.warmed, X', hpost, fun target h => hstep₁ _ fun acts => by rw [doInvoke_state]; exact hsteps.trans h⟩
  · exact Or.inr ⟨q, vm₁, B, X₁.warmed, X', hpost, hstep₁ _ fun acts => by rw [doInvoke_state]; exact hsteps⟩
theorem vx_callSX (X : Stand p l e R s m args below meth c T locs cells slots) (hexec : p.tables.exec = Jvm.exec) {own : String} {index : Nat} {y : MethodName} {bytes : ByteArray} {maxL : Nat} {ret : Option FieldType} {hh : List (Nat × Nat × Nat × Nat)}
    (hown : s.vm.findClass own = some m.cls) (hlink : (Cond.methodLink own index y).before args s = true) (hstat : (Cond.static y).before args s = true) (hinit : (Cond.initialized y.cls).before args s = true)
    (hcode : (Cond.codeWith y bytes maxL ret hh).before args s = true) (hy : y.cls ≠ "java/lang/invoke/MethodHandle" ∧ y.cls ≠ "java/lang/invoke/VarHandle")
    {W9 : Nat} {Pre : Pt → Array Value → Prop} {Post : Pt → Array Value → Option Value → Pt → Prop} {PostX : Pt → Array Value → Addr → Pt → Prop} (hK : vx_Back l R p e below s args y 3 W9 Pre Post PostX)
    {g : JFrame} (hg : g.method = m) (hsize : g.locals.size = c.maxLocals) {argsL rest : List Value} (hlen : ∀ sig, parseMethodDescriptor y.desc = some sig → argsL.length = sig.parameters.length)
    (hstack : g.stack = argsL.reverse ++ rest) (hW : 2 * g.monitorRoom + (rest.map fun v => v.category).sum ≤ W9) (hdg : decode c.code g.pc = .ok (.invokestatic index, 3))
    (hpre : ∀ vm₁, s.WarmedH vm₁ → Pre ⟨T.setVm vm₁, locs, cells, slots⟩ argsL.toArray) :
    (∃ (v : Option Value) (vm₁ : Vm) (B : Pt), s.WarmedH vm₁ ∧ Stand p l e R s m args below meth c B.U B.locs B.cells B.slots ∧ Post ⟨T.setVm vm₁, locs, cells, slots⟩ argsL.toArray v B ∧
      ∀ target, Steps p.tables e below (B.U.setTop { g with pc := g.pc + 3, stack := v.toList ++ rest }) target → Steps p.tables e below (T.setTop g) target) ∨
    (∃ (q : Addr) (vm₁ : Vm) (B : Pt), s.WarmedH vm₁ ∧ Stand p l e R s m args below meth c B.U B.locs B.cells B.slots ∧ PostX ⟨T.setVm vm₁, locs, cells, slots⟩ argsL.toArray q B ∧
      Steps p.tables e below (T.setTop g) ((B.U.setTop { g with stack := rest }).pushFrame (.throwing q))) := by
  obtain ⟨mk, methM, cM, hnamed, hmethM, -, -, -, -, -, -, hsigM⟩ := Cond.codeWith_spec hcode
  have hstatic : methM.isStatic = true := Cond.static_spec hnamed hmethM hstat
  obtain ⟨kP, hkP, -⟩ := className_of_methodNamed hnamed
  have hinitP : kP.init = .initialized := Cond.initialized_spec (findClass_of_methodNamed hnamed) hkP hinit
  obtain ⟨vm₁, X₁, hstep₁⟩ := X.invokestatic hexec hown hlink hnamed hmethM hstatic hkP hinitP hy (g := g) hg (argsL := argsL) (rest := rest) (hlen _ hsigM) hstack hdg
  rcases hK m meth c ⟨T.setVm vm₁, locs, cells, slots⟩ { g with stack := rest } (.invokestatic index) mk argsL.toArray X₁ hg hsize hdg hW (X₁.named hnamed) (hpre vm₁ X₁.warmed) with ⟨v, B, X', hpost, hsteps⟩ | ⟨q, B, X', hpost, hsteps⟩
  · exact Or.inl ⟨v, vm₁, B, X₁.warmed, X', hpost, fun target h => hstep₁ _ fun acts => by rw [doInvoke_state]; exact hsteps.trans h⟩
  · exact Or.inr ⟨q, vm₁, B, X₁.warmed, X', hpost, hstep₁ _ fun acts => by rw [doInvoke_state]; exact hsteps⟩
theorem vx_callVW (X : Stand p l e R s m args below meth c T locs cells slots) (hexec : p.tables.exec = Jvm.exec) {own C : String} {index : Nat} {y : MethodName} {bytes : ByteArray} {maxL : Nat} {ret : Option FieldType} {hh : List (Nat × Nat × Nat × Nat)}
    (hown : s.vm.findClass own = some m.cls) (hlink : (Cond.methodLink own index y).before args s = true) (hinst : (Cond.instanceMethod y).before args s = true) (hsel : (Cond.selects C y y).before args s = true)
    (hcode : (Cond.codeWith y bytes maxL ret hh).before args s = true) (hy : y.cls ≠ "java/lang/invoke/MethodHandle" ∧ y.cls ≠ "java/lang/invoke/VarHandle")
    {W9 : Nat} {Pre : Pt → Array Value → Prop} {Post : Pt → Array Value → Option Value → Pt → Prop} (hK : Back l R p e below s args y 3 W9 Pre Post)
    {b : Addr} {cellB : Cell} (hcell : T.heap[b]? = some cellB) (hobj : cellB.vm.isStatics = false) (hcls : s.vm.findClass C = some cellB.cls)
    {g : JFrame} (hg : g.method = m) (hsize : g.locals.size = c.maxLocals) {argsL rest : List Value} (hlen : ∀ sig, parseMethodDescriptor y.desc = some sig → argsL.length = sig.parameters.length)
    (hstack : g.stack = argsL.reverse ++ .ref b :: rest) (hW : 2 * g.monitorRoom + (rest.map fun v => v.category).sum ≤ W9) (hdg : decode c.code g.pc = .ok (.invokevirtual index, 3))
    (hpre : ∀ vm₁, s.WarmedH vm₁ → Pre ⟨T.setVm vm₁, locs, cells, slots⟩ (Value.ref b :: argsL).toArray) :
    ∃ (v : Option Value) (vm₁ : Vm) (B : Pt), s.WarmedH vm₁ ∧ Stand p l e R s m args below meth c B.U B.locs B.cells B.slots ∧ Post ⟨T.setVm vm₁, locs, cells, slots⟩ (Value.ref b :: argsL).toArray v B ∧
      ∀ target, Steps p.tables e below (B.U.setTop { g with pc := g.pc + 3, stack := v.toList ++ rest }) target → Steps p.tables e below (T.setTop g) target := by
  obtain ⟨mk, methM, hnamed, hmethM, hstM, habM⟩ := Cond.instanceMethod_spec hinst
  obtain ⟨m8, methM', cM, hn8, hmethM', -, -, -, -, -, -, hsigM⟩ := Cond.codeWith_spec hcode
  cases Option.some.inj (hn8.symm.trans hnamed)
  cases hmethM.symm.trans hmethM'
  obtain ⟨c2, r2, m2, q1, q2, q3, q4, kP, hkP, hkPi⟩ := Cond.selects_spec hsel
  cases hcls.symm.trans q1
  cases (State.methodFound?_of_named hnamed hy).symm.trans q2
  cases hnamed.symm.trans q3
  have hselP : selectMethod e.platform s.vm cellB.cls mk = .method mk := by rw [Launch.admits_selectMethod X.admits]; exact q4
  obtain ⟨vm₁, X₁, hstep₁⟩ := X.invokevirtual hexec hown hlink hnamed hmethM hstM hkP hkPi hy (a := b) (cell := cellB) hcell
    (fun z h => by rw [h] at hobj; cases hobj) hselP hmethM habM hkP hkPi (g := g) hg (argsL := argsL) (rest := rest) (hlen _ hsigM) hstack hdg
  obtain ⟨v, B, X', hpost, hsteps⟩ := hK m meth c ⟨T.setVm vm₁, locs, cells, slots⟩ { g with stack := rest } (.invokevirtual index) mk (Value.ref b :: argsL).toArray X₁ hg hsize hdg hW (X₁.named hnamed) (hpre vm₁ X₁.warmed)
  exact ⟨v, vm₁, B, X₁.warmed, X', hpost, fun target h => hstep₁ _ fun acts => by rw [doInvoke_state]; exact hsteps.trans h⟩
abbrev vx_CVW (R : Room) (s : State) (args : Array Value) (own C : String) (index : Nat) (y : MethodName) (bytes : ByteArray) (maxL : Nat) (ret : Option FieldType) (hh : List (Nat × Nat × Nat × Nat)) (ws : List Cond) (rm : Room) (mc ms n : Nat) : Prop :=
  (rm.cells = mc ∧ rm.slots = ms ∧ rm.frames + 1 ≤ R.frames ∧ 8 + (maxL + 11) + rm.locals ≤ R.locals ∧ (∀ w ∈ ws, ∀ (a' : Array Value) (U : State), s.WarmedH U.vm → w.before a' U = true) ∧ Cond.codeWith y bytes maxL ret hh ∈ ws) ∧
  (Cond.codeWith y bytes maxL ret hh).before args s = true ∧ (Cond.initialized y.cls).before args s = true ∧ (y.cls ≠ "java/lang/invoke/MethodHandle" ∧ y.cls ≠ "java/lang/invoke/VarHandle") ∧
  (∀ sig, parseMethodDescriptor y.desc = some sig → n = sig.parameters.length) ∧ (Cond.methodLink own index y).before args s = true ∧ (Cond.instanceMethod y).before args s = true ∧ (Cond.selects C y y).before args s = true
theorem vx_cwVW {own C : String} {index maxL mc ms : Nat} {y : MethodName} {bytes : ByteArray} {ret : Option FieldType} {hh : List (Nat × Nat × Nat × Nat)} {Ts ws ws' : List Cond} {rm : Room} (n : Nat) (ht : ∀ w ∈ Ts, w.before args s = true) (hT : GoodIn Ts (wsV own index C y ws)) (hw : ws = Cond.codeWith y bytes maxL ret hh :: ws') (hrc : rm.cells = mc) (hrs : rm.slots = ms)
    (hd : y.cls = C ∧ y.cls ≠ "java/lang/invoke/MethodHandle" ∧ y.cls ≠ "java/lang/invoke/VarHandle" ∧ (parseMethodDescriptor y.desc).map (fun d => d.parameters.length) = some n) (hR : rm.frames + 1 ≤ R.frames ∧ 8 + (maxL + 11) + rm.locals ≤ R.locals) :
    vx_CVW R s args own C index y bytes maxL ret hh ws rm mc ms n := by
  obtain ⟨hC, hd⟩ := hd
  subst hC
  have ok : ∀ w ∈ wsV own index y.cls y ws, w.before args s = true := fun w h => ht w (hT w h).1
  have hG : GoodIn Ts ws := fun w h => hT w (by unfold wsV; exact List.mem_append_right _ h)
  have hc : Cond.codeWith y bytes maxL ret hh ∈ ws := by rw [hw]; exact List.mem_cons_self
  refine ⟨⟨hrc, hrs, hR.1, hR.2, pay_in ht hG, hc⟩, ht _ (hG _ hc).1, ok _ (by simp [wsV]), ⟨hd.1, hd.2.1⟩, fun sig h => ?_, ok _ (by simp [wsV]), ok _ (by simp [wsV]), ok _ (by simp [wsV])⟩
  have h2 := hd.2.2
  rw [h] at h2
  exact (Option.some.inj h2).symm
theorem vx_runVW {y : MethodName} {bytes cc : ByteArray} {maxL nL mc ms n index : Nat} {ret : Option FieldType} {hh : List (Nat × Nat × Nat × Nat)} {ws : List Cond} {rm : Room} {Pc : Array Value → State → Prop} {Qc : Array Value → State → Outcome → State → Prop} {free : Addr → Prop} {Ts : List Cond} {own C : String} {b : Addr} {As rest : List Value} {g : JFrame}
    (S : CallFix p m c cc nL s args Ts own) (hM : Met l y ws rm Pc Qc mc ms free) (cw : vx_CVW R s args own C index y bytes maxL ret hh ws rm mc ms n) (hp : PreV s H C b Pc As)
    (hg : g.method = m) (hn : As.length = n) (hsize : g.locals.size = nL) (hstack : g.stack = As.reverse ++ .ref b :: rest) (hW : 2 * g.monitorRoom + (rest.map fun v => v.category).sum ≤ 8) (hdg : decode cc g.pc = .ok (.invokevirtual index, 3)) (hf : cells + mc ≤ R.cells ∧ slots + ms ≤ R.slots) :
    va_Run p l e R s m args below meth c H locs cells slots mc ms g rest (Qc (Value.ref b :: As).toArray) free := by
  obtain ⟨⟨hrc, hrs, hfr, hlo, hws, hcw⟩, hcode, hini, hy, hlen, hl, hin, hse⟩ := cw
  have hK : Back l R p e below s args y 3 8 (PreOf R mc ms Pc) (PostOf Qc mc ms free) := va_backW (hh := hh) (bytes := bytes) (maxL := maxL) (ret := ret) hM hp.1 hrc hrs hfr hlo hws hcw (fun a' U hW => word_at hW (Or.inl (by first | rfl | simp [Cond.onTables, Cond.keeps, Cond.steady])) hini)
  obtain ⟨hx, hb, hml, ho, -⟩ := S
  obtain ⟨-, ⟨cellB, hcB, hoB, hclB⟩, hPc⟩ := hp
  intro T hT X
  obtain ⟨v, vm₁, ⟨U', l2, c2, s2⟩, hW₁, X', ⟨g', mk, t, L, e1, e2, hq, h1, hL, h2, h3⟩, st⟩ := vx_callVW X hx (C := C) (hh := hh) (bytes := bytes) (maxL := maxL) (ret := ret) ho hl hin hse hcode hy hK (by rw [hT]; exact hcB) hoB hclB hg (hsize.trans hml.symm) (argsL := As) (rest := rest) (fun sig h => hn.trans (hlen sig h)) hstack hW (by rw [hb]; exact hdg)
    (fun vm₁ hW₁ => ⟨hf.1, hf.2, hPc (T.setVm vm₁) hT hW₁⟩)
  dsimp only [Pt.U, Pt.locs, Pt.cells, Pt.slots] at X' e1 e2 h1 h2 h3 st
  subst h1; subst h2; subst h3
  exact ⟨v, (T.setVm vm₁).calling g' mk (Value.ref b :: As).toArray, t, U', L, hT, X', hL, e1, e2, hq, st⟩
section
variable {y : MethodName} {bytes cc : ByteArray} {maxL nL mc ms n index : Nat} {ret : Option FieldType} {ws : List Cond} {rm : Room} {Pc : Array Value → State → Prop} {Qc : Array Value → State → Outcome → State → Prop} {XC : String → State → State → Prop} {free : Addr → Prop} {Ts : List Cond} {own C : String} {b : Addr} {As rest : List Value} {g : JFrame}
theorem vx_runVX {hh : List (Nat × Nat × Nat × Nat)} (S : CallFix p m c cc nL s args Ts own) (hM : vx_Met l y ws rm Pc Qc XC mc ms free) (cw : vx_CVW R s args own C index y bytes maxL ret hh ws rm mc ms n) (hp : PreV s H C b Pc As)
    (hg : g.method = m) (hn : As.length = n) (hsize : g.locals.size = nL) (hstack : g.stack = As.reverse ++ .ref b :: rest) (hW : 2 * g.monitorRoom + (rest.map fun v => v.category).sum ≤ 8) (hdg : decode cc g.pc = .ok (.invokevirtual index, 3)) (hf : cells + mc ≤ R.cells ∧ slots + ms ≤ R.slots) :
    vx_Run p l e R s m args below meth c H locs cells slots mc ms g rest (Qc (Value.ref b :: As).toArray) XC free := by
  obtain ⟨⟨hrc, hrs, hfr, hlo, hws, hcw⟩, hcode, hini, hy, hlen, hl, hin, hse⟩ := cw
  have hK : vx_Back l R p e below s args y 3 8 (PreOf R mc ms Pc) (PostOf Qc mc ms free) (vx_Post XC mc ms free) := vx_backW (hh := hh) (bytes := bytes) (maxL := maxL) (ret := ret) hM hp.1 hrc hrs hfr hlo hws hcw (fun a' U hW => word_at hW (Or.inl (by first | rfl | simp [Cond.onTables, Cond.keeps, Cond.steady])) hini)
  obtain ⟨hx, hb, hml, ho, -⟩ := S
  obtain ⟨-, ⟨cellB, hcB, hoB, hclB⟩, hPc⟩ := hp
  intro T hT X
  rcases vx_callVX X hx (C := C) (hh := hh) (bytes := bytes) (maxL := maxL) (ret := ret) ho hl hin hse hcode hy hK (by rw [hT]; exact hcB) hoB hclB hg (hsize.trans hml.symm) (argsL := As) (rest := rest) (fun sig h => hn.trans (hlen sig h)) hstack hW (by rw [hb]; exact hdg)
    (fun vm₁ hW₁ => ⟨hf.1, hf.2, hPc (T.setVm vm₁) hT hW₁⟩) with ⟨v, vm₁, ⟨U', l2, c2, s2⟩, hW₁, X', ⟨g', mk, t, L, e1, e2, hq, h1, hL, h2, h3⟩, st⟩ | ⟨q, vm₁, ⟨U', l2, c2, s2⟩, hW₁, X', ⟨g', mk, t, L, E, ce, e1, e2, hq, hce, hcv, hcl, h1, hL, h2, h3⟩, st⟩
  · dsimp only [Pt.U, Pt.locs, Pt.cells, Pt.slots] at X' e1 e2 h1 h2 h3 st
    subst h1; subst h2; subst h3
    exact Or.inl ⟨v, (T.setVm vm₁).calling g' mk (Value.ref b :: As).toArray, t, U', L, hT, X', hL, e1, e2, hq, st⟩
  · dsimp only [Pt.U, Pt.locs, Pt.cells, Pt.slots] at X' e1 e2 h1 h2 h3 st hcl
    subst h1; subst h2; subst h3
    exact Or.inr ⟨q, (T.setVm vm₁).calling g' mk (Value.ref b :: As).toArray, t, U', L, E, ce, hT, X', hL, e1, e2, hq, hce, hcv, vx_cls hW₁ hcl, st⟩
theorem vx_runSX {hh : List (Nat × Nat × Nat × Nat)} (S : CallFix p m c cc nL s args Ts own) (hM : vx_Met l y ws rm Pc Qc XC mc ms free) (cw : vx_CSW R s args own index y bytes maxL ret hh ws rm mc ms n) (hp : PreS s H Pc As)
    (hg : g.method = m) (hn : As.length = n) (hsize : g.locals.size = nL) (hstack : g.stack = As.reverse ++ rest) (hW : 2 * g.monitorRoom + (rest.map fun v => v.category).sum ≤ 8) (hdg : decode cc g.pc = .ok (.invokestatic index, 3)) (hf : cells + mc ≤ R.cells ∧ slots + ms ≤ R.slots) :
    vx_Run p l e R s m args below meth c H locs cells slots mc ms g rest (Qc As.toArray) XC free := by
  obtain ⟨⟨hrc, hrs, hfr, hlo, hws, hcw⟩, hcode, hini, hy, hlen, hl, hstt⟩ := cw
  have hK : vx_Back l R p e below s args y 3 8 (PreOf R mc ms Pc) (PostOf Qc mc ms free) (vx_Post XC mc ms free) := vx_backW (hh := hh) (bytes := bytes) (maxL := maxL) (ret := ret) hM hp.1 hrc hrs hfr hlo hws hcw (fun a' U hW => word_at hW (Or.inl (by first | rfl | simp [Cond.onTables, Cond.keeps, Cond.steady])) hini)
  obtain ⟨hx, hb, hml, ho, -⟩ := S
  intro T hT X
  rcases vx_callSX X hx (hh := hh) (bytes := bytes) (maxL := maxL) (ret := ret) ho hl hstt hini hcode hy hK hg (hsize.trans hml.symm) (argsL := As) (rest := rest) (fun sig h => hn.trans (hlen sig h)) hstack hW (by rw [hb]; exact hdg)
    (fun vm₁ hW₁ => ⟨hf.1, hf.2, hp.2 (T.setVm vm₁) hT hW₁⟩) with ⟨v, vm₁, ⟨U', l2, c2, s2⟩, hW₁, X', ⟨g', mk, t, L, e1, e2, hq, h1, hL, h2, h3⟩, st⟩ | ⟨q, vm₁, ⟨U', l2, c2, s2⟩, hW₁, X', ⟨g', mk, t, L, E, ce, e1, e2, hq, hce, hcv, hcl, h1, hL, h2, h3⟩, st⟩
  · dsimp only [Pt.U, Pt.locs, Pt.cells, Pt.slots] at X' e1 e2 h1 h2 h3 st
    subst h1; subst h2; subst h3
    exact Or.inl ⟨v, (T.setVm vm₁).calling g' mk As.toArray, t, U', L, hT, X', hL, e1, e2, hq, st⟩
  · dsimp only [Pt.U, Pt.locs, Pt.cells, Pt.slots] at X' e1 e2 h1 h2 h3 st hcl
    subst h1; subst h2; subst h3
    exact Or.inr ⟨q, (T.setVm vm₁).calling g' mk As.toArray, t, U', L, E, ce, hT, X', hL, e1, e2, hq, hce, hcv, vx_cls hW₁ hcl, st⟩
end
end VXH
theorem vx_ofWH {l : Launch} {y : MethodName} {ws ws' : List Cond} {rm : Room} {Pc : Array Value → State → Prop} {Qc : Array Value → State → Outcome → State → Prop} {XC : String → State → State → Prop} {mc ms : Nat} {free : Addr → Prop} {cc : ByteArray} {maxL : Nat} {ret : Option FieldType} {hh : List (Nat × Nat × Nat × Nat)}
    (hy : plainName y.cls = true) (hw : ws = Cond.codeWith y cc maxL ret hh :: ws')
    (body : ∀ p e s m args below meth c s₁, BodyLoose p l y (headSpec ws rm) cc maxL ret e s m args below meth c s₁ → c.maxLocals = maxL → Pc args s →
      W p l e (headSpec ws rm).room s m args below meth c s.heap [] 0 0 (vx_MQ below Qc XC args s mc ms free) (entryFrame m args maxL)) : vx_Met l y ws rm Pc Qc XC mc ms free := by
  refine MetFree.of_bodyS (code := cc) (maxLocals := maxL) (ret := ret) hy ?_ ?_
  · intro args s m h hn
    obtain ⟨m9, meth, c, hn9, h1, h2, h3, h4, -, h5, h6, -⟩ := Cond.codeWith_spec (atoms_spec (ws := ws) h _ (by rw [hw]; exact List.mem_cons_self))
    cases hn.symm.trans hn9
    exact ⟨meth, c, h1, h2, h3, h4, h5, h6⟩
  · intro p e s m args below meth c s₁ B hml hP _
    have hh0 : s₁.heap = s.heap := by rw [B.state]; rfl
    obtain ⟨t, a1, o, b1, b2, b3⟩ := body p e s m args below meth c s₁ B hml hP s₁ hh0 (Stand.of_body B)
    exact ⟨t, o, a1, b1, b2, b3⟩
/-! ===== END ===== -/
end
section
/-! ===== BEGIN printed: names, fields, word lists, decode rows ===== -/
def RX0 : String := "FundBook$Loan"
def TX0 : u_T := fun k => match k with
  | 0 => ("FundBook$Loan", "branch", "I", true)
  | 1 => ("FundBook$Loan", "product", "I", true)
  | 2 => ("FundBook$Loan", "rate", "I", true)
  | 3 => ("FundBook$Loan", "hasOption", "Z", true)
  | 4 => ("FundBook$Loan", "optionRate", "I", true)
  | 5 => ("FundBook$Loan", "parts", "[I", true)
  | 6 => ("FundBook$Loan", "fundingRates", "[I", true)
  | _ => ("FundBook$Loan", "paidParts", "I", false)
def tyX0 : Nat → FieldType := fun k => match k with
  | 0 => .int
  | 1 => .int
  | 2 => .int
  | 3 => .boolean
  | 4 => .int
  | 5 => .array .int
  | 6 => .array .int
  | _ => .int
abbrev wsX00 : List Cond := u_ws RX0 TX0 8
theorem nmX0 : ∀ a, a < 8 → ∀ b, b < 8 → a ≠ b → (TX0 a).2.1 ≠ (TX0 b).2.1 := by decide +kernel
theorem tyX0_ok : ∀ k, k < 8 → parseFieldDescriptor (TX0 k).2.2.1 = some (tyX0 k) := by decide +kernel
abbrev cX0_init : ByteArray := prog_2_method_1_code
def yX0_init : MethodName := ⟨RX0, "<init>", "(IIIZI[I[I)V"⟩
abbrev cX0_unpaid : ByteArray := prog_2_method_2_code
def yX0_unpaid : MethodName := ⟨RX0, "unpaid", "()I"⟩
abbrev cX0_partAhead : ByteArray := prog_2_method_3_code
def yX0_partAhead : MethodName := ⟨RX0, "partAhead", "(I)I"⟩
abbrev cX0_customerInterest : ByteArray := prog_2_method_4_code
def yX0_customerInterest : MethodName := ⟨RX0, "customerInterest", "()I"⟩
abbrev cX0_funding : ByteArray := prog_2_method_5_code
def yX0_funding : MethodName := ⟨RX0, "funding", "()I"⟩
abbrev cX0_optionCharge : ByteArray := prog_2_method_6_code
def yX0_optionCharge : MethodName := ⟨RX0, "optionCharge", "()I"⟩
abbrev cX0_ownMargin : ByteArray := prog_2_method_7_code
def yX0_ownMargin : MethodName := ⟨RX0, "ownMargin", "()I"⟩
abbrev cX0_payPart : ByteArray := prog_2_method_8_code
def yX0_payPart : MethodName := ⟨RX0, "payPart", "()V"⟩
abbrev cX0_settle : ByteArray := prog_2_method_9_code
def yX0_settle : MethodName := ⟨RX0, "settle", "()V"⟩
def RX1 : String := "FundBook$Replica"
def TX1 : u_T := fun k => match k with
  | 0 => ("FundBook$Replica", "amounts", "[I", true)
  | _ => ("FundBook$Replica", "rates", "[I", true)
def tyX1 : Nat → FieldType := fun k => match k with
  | 0 => .array .int
  | _ => .array .int
abbrev wsX10 : List Cond := u_ws RX1 TX1 2
theorem nmX1 : ∀ a, a < 2 → ∀ b, b < 2 → a ≠ b → (TX1 a).2.1 ≠ (TX1 b).2.1 := by decide +kernel
theorem tyX1_ok : ∀ k, k < 2 → parseFieldDescriptor (TX1 k).2.2.1 = some (tyX1 k) := by decide +kernel
abbrev cX1_init : ByteArray := prog_3_method_1_code
def yX1_init : MethodName := ⟨RX1, "<init>", "()V"⟩
abbrev cX1_lay : ByteArray := prog_3_method_2_code
def yX1_lay : MethodName := ⟨RX1, "lay", "(III)V"⟩
abbrev cX1_layAll : ByteArray := prog_3_method_3_code
def yX1_layAll : MethodName := ⟨RX1, "layAll", "(II)V"⟩
abbrev cX1_averageRate : ByteArray := prog_3_method_4_code
def yX1_averageRate : MethodName := ⟨RX1, "averageRate", "()I"⟩
def RX2 : String := "FundBook"
def TX2 : u_T := fun k => match k with
  | 0 => ("FundBook", "curve", "[I", true)
  | 1 => ("FundBook", "depositRate", "I", false)
  | 2 => ("FundBook", "optionRate", "I", false)
  | 3 => ("FundBook", "coreShare", "I", false)
  | 4 => ("FundBook", "now", "I", false)
  | 5 => ("FundBook", "loanRows", "[LFundBook$Loan;", true)
  | 6 => ("FundBook", "loanCount", "I", false)
  | 7 => ("FundBook", "balances", "[I", true)
  | 8 => ("FundBook", "replica", "LFundBook$Replica;", true)
  | 9 => ("FundBook", "branchMargins", "[[I", true)
  | 10 => ("FundBook", "productMargins", "[[I", true)
  | 11 => ("FundBook", "treasuryMargins", "[I", true)
  | _ => ("FundBook", "bankInterests", "[I", true)
def tyX2 : Nat → FieldType := fun k => match k with
  | 0 => .array .int
  | 1 => .int
  | 2 => .int
  | 3 => .int
  | 4 => .int
  | 5 => .array (.object "FundBook$Loan")
  | 6 => .int
  | 7 => .array .int
  | 8 => .object "FundBook$Replica"
  | 9 => .array (.array .int)
  | 10 => .array (.array .int)
  | 11 => .array .int
  | _ => .array .int
abbrev wsX20 : List Cond := u_ws RX2 TX2 13
theorem nmX2 : ∀ a, a < 13 → ∀ b, b < 13 → a ≠ b → (TX2 a).2.1 ≠ (TX2 b).2.1 := by decide +kernel
theorem tyX2_ok : ∀ k, k < 13 → parseFieldDescriptor (TX2 k).2.2.1 = some (tyX2 k) := by decide +kernel
abbrev cX2_init : ByteArray := prog_1_method_1_code
def yX2_init : MethodName := ⟨RX2, "<init>", "()V"⟩
abbrev cX2_setCurve : ByteArray := prog_1_method_2_code
def yX2_setCurve : MethodName := ⟨RX2, "setCurve", "(II)I"⟩
abbrev cX2_setRates : ByteArray := prog_1_method_3_code
def yX2_setRates : MethodName := ⟨RX2, "setRates", "(III)V"⟩
abbrev cX2_lend : ByteArray := prog_1_method_4_code
def yX2_lend : MethodName := ⟨RX2, "lend", "(IIIIIZ)I"⟩
abbrev cX2_repay : ByteArray := prog_1_method_5_code
def yX2_repay : MethodName := ⟨RX2, "repay", "(I)I"⟩
abbrev cX2_deposit : ByteArray := prog_1_method_6_code
def yX2_deposit : MethodName := ⟨RX2, "deposit", "(II)I"⟩
abbrev cX2_closeMonth : ByteArray := prog_1_method_7_code
def yX2_closeMonth : MethodName := ⟨RX2, "closeMonth", "()I"⟩
abbrev cX2_month : ByteArray := prog_1_method_8_code
def yX2_month : MethodName := ⟨RX2, "month", "()I"⟩
abbrev cX2_loans : ByteArray := prog_1_method_9_code
def yX2_loans : MethodName := ⟨RX2, "loans", "()I"⟩
abbrev cX2_left : ByteArray := prog_1_method_10_code
def yX2_left : MethodName := ⟨RX2, "left", "(I)I"⟩
abbrev cX2_bears : ByteArray := prog_1_method_11_code
def yX2_bears : MethodName := ⟨RX2, "bears", "(II)I"⟩
abbrev cX2_due : ByteArray := prog_1_method_12_code
def yX2_due : MethodName := ⟨RX2, "due", "(I)I"⟩
abbrev cX2_balance : ByteArray := prog_1_method_13_code
def yX2_balance : MethodName := ⟨RX2, "balance", "(I)I"⟩
abbrev cX2_tranche : ByteArray := prog_1_method_14_code
def yX2_tranche : MethodName := ⟨RX2, "tranche", "(I)I"⟩
abbrev cX2_replicaRate : ByteArray := prog_1_method_15_code
def yX2_replicaRate : MethodName := ⟨RX2, "replicaRate", "()I"⟩
abbrev cX2_margin : ByteArray := prog_1_method_16_code
def yX2_margin : MethodName := ⟨RX2, "margin", "(II)I"⟩
abbrev cX2_byProduct : ByteArray := prog_1_method_17_code
def yX2_byProduct : MethodName := ⟨RX2, "byProduct", "(II)I"⟩
abbrev cX2_treasury : ByteArray := prog_1_method_18_code
def yX2_treasury : MethodName := ⟨RX2, "treasury", "(I)I"⟩
abbrev cX2_interest : ByteArray := prog_1_method_19_code
def yX2_interest : MethodName := ⟨RX2, "interest", "(I)I"⟩
abbrev cX2_hasEnded : ByteArray := prog_1_method_20_code
def yX2_hasEnded : MethodName := ⟨RX2, "hasEnded", "(I)Z"⟩
abbrev cX2_findLoan : ByteArray := prog_1_method_21_code
def yX2_findLoan : MethodName := ⟨RX2, "findLoan", "(I)LFundBook$Loan;"⟩
abbrev cX2_cutIntoParts : ByteArray := prog_1_method_22_code
def yX2_cutIntoParts : MethodName := ⟨RX2, "cutIntoParts", "(III)[I"⟩
abbrev cX2_forOneMonth : ByteArray := prog_1_method_23_code
def yX2_forOneMonth : MethodName := ⟨RX2, "forOneMonth", "(J)I"⟩
abbrev cX2_coreOf : ByteArray := prog_1_method_24_code
def yX2_coreOf : MethodName := ⟨RX2, "coreOf", "(J)I"⟩
abbrev cX2_trancheAmount : ByteArray := prog_1_method_25_code
def yX2_trancheAmount : MethodName := ⟨RX2, "trancheAmount", "()I"⟩
abbrev cX2_reckonLoans : ByteArray := prog_1_method_26_code
def yX2_reckonLoans : MethodName := ⟨RX2, "reckonLoans", "()V"⟩
abbrev cX2_loanMarginsOfBranch : ByteArray := prog_1_method_27_code
def yX2_loanMarginsOfBranch : MethodName := ⟨RX2, "loanMarginsOfBranch", "(I)I"⟩
abbrev cX2_loanMarginsOfProduct : ByteArray := prog_1_method_28_code
def yX2_loanMarginsOfProduct : MethodName := ⟨RX2, "loanMarginsOfProduct", "(I)I"⟩
abbrev cX2_reckonDeposits : ByteArray := prog_1_method_29_code
def yX2_reckonDeposits : MethodName := ⟨RX2, "reckonDeposits", "()V"⟩
abbrev cX2_paidForDeposits : ByteArray := prog_1_method_30_code
def yX2_paidForDeposits : MethodName := ⟨RX2, "paidForDeposits", "(II)I"⟩
abbrev cX2_payParts : ByteArray := prog_1_method_31_code
def yX2_payParts : MethodName := ⟨RX2, "payParts", "()V"⟩
def RX3 : String := "FundBookModel"
def TX3 : u_T := fun k => match k with
  | _ => ("", "", "", false)
def tyX3 : Nat → FieldType := fun k => match k with
  | _ => .int
abbrev wsX30 : List Cond := u_ws RX3 TX3 0
theorem nmX3 : ∀ a, a < 0 → ∀ b, b < 0 → a ≠ b → (TX3 a).2.1 ≠ (TX3 b).2.1 := by decide +kernel
theorem tyX3_ok : ∀ k, k < 0 → parseFieldDescriptor (TX3 k).2.2.1 = some (tyX3 k) := by decide +kernel
def RJx8e188 : String := "java/lang/Cloneable"
def TJx8e188 : u_T := fun k => match k with
  | _ => ("", "", "", false)
def tyJx8e188 : Nat → FieldType := fun k => match k with
  | _ => .int
abbrev wsJx8e1880 : List Cond := u_ws RJx8e188 TJx8e188 0
theorem nmJx8e188 : ∀ a, a < 0 → ∀ b, b < 0 → a ≠ b → (TJx8e188 a).2.1 ≠ (TJx8e188 b).2.1 := by decide +kernel
theorem tyJx8e188_ok : ∀ k, k < 0 → parseFieldDescriptor (TJx8e188 k).2.2.1 = some (tyJx8e188 k) := by decide +kernel
def RJ0 : String := "java/lang/String"
def TJ0 : u_T := fun k => match k with
  | _ => ("", "", "", false)
def tyJ0 : Nat → FieldType := fun k => match k with
  | _ => .int
abbrev wsJ00 : List Cond := u_ws RJ0 TJ0 0
theorem nmJ0 : ∀ a, a < 0 → ∀ b, b < 0 → a ≠ b → (TJ0 a).2.1 ≠ (TJ0 b).2.1 := by decide +kernel
theorem tyJ0_ok : ∀ k, k < 0 → parseFieldDescriptor (TJ0 k).2.2.1 = some (tyJ0 k) := by decide +kernel
def RL : String := "FundBookLaw"
abbrev cL_cell : ByteArray := method_2_code
def yL_cell : MethodName := ⟨RL, "cell", "([II)I"⟩
abbrev cL_low : ByteArray := method_3_code
def yL_low : MethodName := ⟨RL, "low", "(II)I"⟩
abbrev cL_calls : ByteArray := method_4_code
def yL_calls : MethodName := ⟨RL, "calls", "(LFundBook;III)I"⟩
abbrev cL_part : ByteArray := method_5_code
def yL_part : MethodName := ⟨RL, "part", "(II[I[I)I"⟩
abbrev cL_left : ByteArray := method_6_code
def yL_left : MethodName := ⟨RL, "left", "(I[I[I)I"⟩
abbrev cL_bears : ByteArray := method_7_code
def yL_bears : MethodName := ⟨RL, "bears", "(II[I[I[I)I"⟩
abbrev cL_rate : ByteArray := method_8_code
def yL_rate : MethodName := ⟨RL, "rate", "([I)I"⟩
abbrev cL_lay : ByteArray := method_9_code
def yL_lay : MethodName := ⟨RL, "lay", "(I[I[I)V"⟩
abbrev cL_branch : ByteArray := method_10_code
def yL_branch : MethodName := ⟨RL, "branch", "(I[I[I)I"⟩
abbrev cL_closes : ByteArray := method_11_code
def yL_closes : MethodName := ⟨RL, "closes", "([I[I[I[I[I)V"⟩
abbrev cL_isSo : ByteArray := method_12_code
def yL_isSo : MethodName := ⟨RL, "isSo", "(LFundBook;[I[I[I[I[I)Z"⟩
abbrev cL_lends : ByteArray := method_13_code
def yL_lends : MethodName := ⟨RL, "lends", "(LFundBook;I[I[I[I)Z"⟩
abbrev cL_deposits : ByteArray := method_14_code
def yL_deposits : MethodName := ⟨RL, "deposits", "(LFundBook;I[I[I)Z"⟩
abbrev cL_sets : ByteArray := method_15_code
def yL_sets : MethodName := ⟨RL, "sets", "(LFundBook;I[I)Z"⟩
abbrev cL_law : ByteArray := code
def yL_law : MethodName := ⟨RL, "law", "([I)Z"⟩
def wsX0_init : List Cond := .code yX0_init cX0_init 8 none :: ([.methodLink RX0 3 objectInit, .instanceMethod objectInit, .code objectInit ⟨#[0xb1]⟩ 1 none, .fieldLink RX0 9 "FundBook$Loan" "branch" "I", .fieldLink RX0 15 "FundBook$Loan" "product" "I", .fieldLink RX0 18 "FundBook$Loan" "rate" "I", .fieldLink RX0 21 "FundBook$Loan" "hasOption" "Z", .fieldLink RX0 25 "FundBook$Loan" "optionRate" "I", .fieldLink RX0 28 "FundBook$Loan" "parts" "[I", .fieldLink RX0 32 "FundBook$Loan" "fundingRates" "[I", .fieldLink RX0 35 "FundBook$Loan" "paidParts" "I"] ++ wsX00)
def wsX0_unpaid : List Cond := .code yX0_unpaid cX0_unpaid 3 (some .int) :: ([.fieldLink RX0 35 "FundBook$Loan" "paidParts" "I", .fieldLink RX0 28 "FundBook$Loan" "parts" "[I"] ++ wsX00)
def wsX0_partAhead : List Cond := .code yX0_partAhead cX0_partAhead 3 (some .int) :: ([.fieldLink RX0 35 "FundBook$Loan" "paidParts" "I", .fieldLink RX0 28 "FundBook$Loan" "parts" "[I"] ++ wsX00)
def wsX2_forOneMonth : List Cond := .code yX2_forOneMonth cX2_forOneMonth 2 (some .int) :: ([.constantLong RX2 187 (120000)])
def wsX0_customerInterest : List Cond := .code yX0_customerInterest cX0_customerInterest 1 (some .int) :: ([.fieldLink RX0 18 "FundBook$Loan" "rate" "I", .methodLink RX0 38 yX0_unpaid, .instanceMethod yX0_unpaid, .selects RX0 yX0_unpaid yX0_unpaid, .initialized RX0, .code yX0_unpaid cX0_unpaid 3 (some .int), .fieldLink RX0 35 "FundBook$Loan" "paidParts" "I", .fieldLink RX0 28 "FundBook$Loan" "parts" "[I", .static yX2_forOneMonth, .initialized RX2, .code yX2_forOneMonth cX2_forOneMonth 2 (some .int), .constantLong RX2 187 (120000)] ++ wsX00)
def wsX0_funding : List Cond := .code yX0_funding cX0_funding 4 (some .int) :: ([.fieldLink RX0 35 "FundBook$Loan" "paidParts" "I", .fieldLink RX0 28 "FundBook$Loan" "parts" "[I", .fieldLink RX0 32 "FundBook$Loan" "fundingRates" "[I", .static yX2_forOneMonth, .initialized RX2, .code yX2_forOneMonth cX2_forOneMonth 2 (some .int), .constantLong RX2 187 (120000)] ++ wsX00)
def wsX0_optionCharge : List Cond := .code yX0_optionCharge cX0_optionCharge 1 (some .int) :: ([.fieldLink RX0 25 "FundBook$Loan" "optionRate" "I", .methodLink RX0 38 yX0_unpaid, .instanceMethod yX0_unpaid, .selects RX0 yX0_unpaid yX0_unpaid, .initialized RX0, .code yX0_unpaid cX0_unpaid 3 (some .int), .fieldLink RX0 35 "FundBook$Loan" "paidParts" "I", .fieldLink RX0 28 "FundBook$Loan" "parts" "[I", .static yX2_forOneMonth, .initialized RX2, .code yX2_forOneMonth cX2_forOneMonth 2 (some .int), .constantLong RX2 187 (120000)] ++ wsX00)
def wsX0_ownMargin_r1 : List Cond := [Cond.methodLink RX0 46 yX0_customerInterest, Cond.instanceMethod yX0_customerInterest, Cond.selects RX0 yX0_customerInterest yX0_customerInterest, Cond.initialized RX0, Cond.code yX0_customerInterest cX0_customerInterest 1 (some .int), Cond.fieldLink RX0 18 "FundBook$Loan" "rate" "I", Cond.methodLink RX0 38 yX0_unpaid, Cond.instanceMethod yX0_unpaid, Cond.selects RX0 yX0_unpaid yX0_unpaid, Cond.code yX0_unpaid cX0_unpaid 3 (some .int), Cond.fieldLink RX0 35 "FundBook$Loan" "paidParts" "I", Cond.fieldLink RX0 28 "FundBook$Loan" "parts" "[I", Cond.static yX2_forOneMonth, Cond.initialized RX2, Cond.code yX2_forOneMonth cX2_forOneMonth 2 (some .int), Cond.constantLong RX2 187 (120000), Cond.methodLink RX0 49 yX0_funding, Cond.instanceMethod yX0_funding, Cond.selects RX0 yX0_funding yX0_funding, Cond.code yX0_funding cX0_funding 4 (some .int), Cond.fieldLink RX0 32 "FundBook$Loan" "fundingRates" "[I", Cond.methodLink RX0 52 yX0_optionCharge, Cond.instanceMethod yX0_optionCharge, Cond.selects RX0 yX0_optionCharge yX0_optionCharge]
def wsX0_ownMargin_r2 : List Cond := [Cond.code yX0_optionCharge cX0_optionCharge 1 (some .int), Cond.fieldLink RX0 25 "FundBook$Loan" "optionRate" "I"]
def wsX0_ownMargin : List Cond := .code yX0_ownMargin cX0_ownMargin 1 (some .int) :: ((wsX0_ownMargin_r1 ++ wsX0_ownMargin_r2) ++ wsX00)
def wsX0_payPart : List Cond := .code yX0_payPart cX0_payPart 1 none :: ([.fieldLink RX0 35 "FundBook$Loan" "paidParts" "I"] ++ wsX00)
def wsX0_settle : List Cond := .code yX0_settle cX0_settle 1 none :: ([.fieldLink RX0 35 "FundBook$Loan" "paidParts" "I"] ++ wsX00)
def wsX1_init : List Cond := .code yX1_init cX1_init 1 none :: ([.methodLink RX1 3 objectInit, .instanceMethod objectInit, .code objectInit ⟨#[0xb1]⟩ 1 none, .arrayClass .int, .fieldLink RX1 9 "FundBook$Replica" "amounts" "[I", .fieldLink RX1 15 "FundBook$Replica" "rates" "[I"] ++ wsX10)
def wsX1_lay : List Cond := .code yX1_lay cX1_lay 4 none :: ([.fieldLink RX1 9 "FundBook$Replica" "amounts" "[I", .fieldLink RX1 15 "FundBook$Replica" "rates" "[I"] ++ wsX10)
def wsX1_layAll : List Cond := .code yX1_layAll cX1_layAll 4 none :: ([.methodLink RX1 18 yX1_lay, .instanceMethod yX1_lay, .selects RX1 yX1_lay yX1_lay, .initialized RX1, .code yX1_lay cX1_lay 4 none, .fieldLink RX1 9 "FundBook$Replica" "amounts" "[I", .fieldLink RX1 15 "FundBook$Replica" "rates" "[I"] ++ wsX10)
def wsX1_averageRate : List Cond := .code yX1_averageRate cX1_averageRate 6 (some .int) :: ([.fieldLink RX1 9 "FundBook$Replica" "amounts" "[I", .fieldLink RX1 15 "FundBook$Replica" "rates" "[I"] ++ wsX10)
def wsX2_init_r1 : List Cond := [Cond.methodLink RX2 1 objectInit, Cond.instanceMethod objectInit, Cond.code objectInit ⟨#[0xb1]⟩ 1 none, Cond.arrayClass .int, Cond.fieldLink RX2 9 "FundBook" "curve" "[I", Cond.fieldLink RX2 13 "FundBook" "depositRate" "I", Cond.fieldLink RX2 17 "FundBook" "optionRate" "I", Cond.fieldLink RX2 20 "FundBook" "coreShare" "I", Cond.fieldLink RX2 23 "FundBook" "now" "I", Cond.classLink RX2 26 RX0, Cond.fieldLink RX2 28 "FundBook" "loanRows" "[LFundBook$Loan;", Cond.fieldLink RX2 32 "FundBook" "loanCount" "I", Cond.fieldLink RX2 35 "FundBook" "balances" "[I", Cond.classLink RX2 38 RX1, Cond.instantiable RX1 2, Cond.initialized RX1, Cond.fieldLink RX2 41 "FundBook" "replica" "LFundBook$Replica;", Cond.classLink RX2 45 "[[I", Cond.fieldLink RX2 47 "FundBook" "branchMargins" "[[I", Cond.fieldLink RX2 50 "FundBook" "productMargins" "[[I", Cond.fieldLink RX2 53 "FundBook" "treasuryMargins" "[I", Cond.fieldLink RX2 56 "FundBook" "bankInterests" "[I", Cond.instanceMethod yX1_init, Cond.code yX1_init cX1_init 1 none]
def wsX2_init_r2 : List Cond := [Cond.methodLink RX1 3 objectInit, Cond.fieldLink RX1 9 "FundBook$Replica" "amounts" "[I", Cond.fieldLink RX1 15 "FundBook$Replica" "rates" "[I"]
def wsX2_init : List Cond := .code yX2_init cX2_init 1 none :: ((wsX2_init_r1 ++ wsX2_init_r2) ++ wsX20 ++ wsX10)
def wsX2_setCurve : List Cond := .code yX2_setCurve cX2_setCurve 4 (some .int) :: ([.classLink RX2 59 "java/lang/IndexOutOfBoundsException", .initialized "java/lang/IndexOutOfBoundsException", .classLink RX2 66 "java/lang/IllegalArgumentException", .initialized "java/lang/IllegalArgumentException", .fieldLink RX2 9 "FundBook" "curve" "[I"] ++ wsX20 ++ (vx_atS RX2 63 "java/lang/IndexOutOfBoundsException" ["java/lang/RuntimeException", "java/lang/Exception"]).filter goodWord ++ (vx_atS RX2 70 "java/lang/IllegalArgumentException" ["java/lang/RuntimeException", "java/lang/Exception"]).filter goodWord)
def wsX2_setRates : List Cond := .code yX2_setRates cX2_setRates 4 none :: ([.classLink RX2 66 "java/lang/IllegalArgumentException", .initialized "java/lang/IllegalArgumentException", .fieldLink RX2 13 "FundBook" "depositRate" "I", .fieldLink RX2 17 "FundBook" "optionRate" "I", .fieldLink RX2 20 "FundBook" "coreShare" "I"] ++ wsX20 ++ (vx_atS RX2 70 "java/lang/IllegalArgumentException" ["java/lang/RuntimeException", "java/lang/Exception"]).filter goodWord)
def wsX2_cutIntoParts : List Cond := .code yX2_cutIntoParts cX2_cutIntoParts 5 (some (.array .int)) :: ([.arrayClass .int])
def wsX2_lend_r1 : List Cond := [Cond.classLink RX2 59 "java/lang/IndexOutOfBoundsException", Cond.initialized "java/lang/IndexOutOfBoundsException", Cond.classLink RX2 66 "java/lang/IllegalArgumentException", Cond.initialized "java/lang/IllegalArgumentException", Cond.classLink RX2 84 "java/lang/IllegalStateException", Cond.initialized "java/lang/IllegalStateException", Cond.constant RX2 79 (10000000), Cond.fieldLink RX2 32 "FundBook" "loanCount" "I", Cond.fieldLink RX2 17 "FundBook" "optionRate" "I", Cond.fieldLink RX2 28 "FundBook" "loanRows" "[LFundBook$Loan;", Cond.classLink RX2 26 RX0, Cond.instantiable RX0 8, Cond.initialized RX0, Cond.fieldLink RX2 9 "FundBook" "curve" "[I", Cond.methodLink RX2 93 ⟨"[I", "clone", "()Ljava/lang/Object;"⟩, Cond.sameMethod "[I" "java/lang/Object" "clone" "()Ljava/lang/Object;", Cond.native ⟨"java/lang/Object", "clone", "()Ljava/lang/Object;"⟩, Cond.instanceMethod ⟨"java/lang/Object", "clone", "()Ljava/lang/Object;"⟩, Cond.selects "[I" ⟨"[I", "clone", "()Ljava/lang/Object;"⟩ ⟨"java/lang/Object", "clone", "()Ljava/lang/Object;"⟩, Cond.classLink RX2 94 "[I", Cond.methodLink RX2 89 yX2_cutIntoParts, Cond.static yX2_cutIntoParts, Cond.initialized RX2, Cond.code yX2_cutIntoParts cX2_cutIntoParts 5 (some (.array .int))]
def wsX2_lend_r2 : List Cond := [Cond.arrayClass .int, Cond.instanceMethod yX0_init, Cond.code yX0_init cX0_init 8 none, Cond.methodLink RX0 3 objectInit, Cond.instanceMethod objectInit, Cond.code objectInit ⟨#[0xb1]⟩ 1 none, Cond.fieldLink RX0 9 "FundBook$Loan" "branch" "I", Cond.fieldLink RX0 15 "FundBook$Loan" "product" "I", Cond.fieldLink RX0 18 "FundBook$Loan" "rate" "I", Cond.fieldLink RX0 21 "FundBook$Loan" "hasOption" "Z", Cond.fieldLink RX0 25 "FundBook$Loan" "optionRate" "I", Cond.fieldLink RX0 28 "FundBook$Loan" "parts" "[I", Cond.fieldLink RX0 32 "FundBook$Loan" "fundingRates" "[I", Cond.fieldLink RX0 35 "FundBook$Loan" "paidParts" "I"]
def wsX2_lend : List Cond := .code yX2_lend cX2_lend 10 (some .int) :: ((wsX2_lend_r1 ++ wsX2_lend_r2) ++ wsX20 ++ wsX00 ++ (vx_atS RX2 63 "java/lang/IndexOutOfBoundsException" ["java/lang/RuntimeException", "java/lang/Exception"]).filter goodWord ++ (vx_atS RX2 70 "java/lang/IllegalArgumentException" ["java/lang/RuntimeException", "java/lang/Exception"]).filter goodWord ++ (vx_atS RX2 88 "java/lang/IllegalStateException" ["java/lang/RuntimeException", "java/lang/Exception"]).filter goodWord)
def wsX2_findLoan : List Cond := .code yX2_findLoan cX2_findLoan 2 (some (.object "FundBook$Loan")) :: ([.fieldLink RX2 28 "FundBook" "loanRows" "[LFundBook$Loan;"] ++ wsX20)
def wsX2_repay : List Cond := .code yX2_repay cX2_repay 4 (some .int) :: ([.classLink RX2 59 "java/lang/IndexOutOfBoundsException", .initialized "java/lang/IndexOutOfBoundsException", .classLink RX2 84 "java/lang/IllegalStateException", .initialized "java/lang/IllegalStateException", .methodLink RX2 101 yX2_findLoan, .instanceMethod yX2_findLoan, .selects RX2 yX2_findLoan yX2_findLoan, .initialized RX2, .code yX2_findLoan cX2_findLoan 2 (some (.object "FundBook$Loan")), .fieldLink RX2 28 "FundBook" "loanRows" "[LFundBook$Loan;", .instanceMethod yX0_unpaid, .initialized RX0, .selects RX0 yX0_unpaid yX0_unpaid, .code yX0_unpaid cX0_unpaid 3 (some .int), .fieldLink RX0 35 "FundBook$Loan" "paidParts" "I", .fieldLink RX0 28 "FundBook$Loan" "parts" "[I", .instanceMethod yX0_settle, .selects RX0 yX0_settle yX0_settle, .code yX0_settle cX0_settle 1 none] ++ wsX00 ++ wsX20 ++ (vx_atS RX2 63 "java/lang/IndexOutOfBoundsException" ["java/lang/RuntimeException", "java/lang/Exception"]).filter goodWord ++ (vx_atS RX2 88 "java/lang/IllegalStateException" ["java/lang/RuntimeException", "java/lang/Exception"]).filter goodWord)
def wsX2_coreOf : List Cond := .code yX2_coreOf cX2_coreOf 3 (some .int) :: ([.fieldLink RX2 20 "FundBook" "coreShare" "I", .constantLong RX2 189 (100)] ++ wsX20)
def wsX2_trancheAmount : List Cond := .code yX2_trancheAmount cX2_trancheAmount 7 (some .int) :: ([.fieldLink RX2 35 "FundBook" "balances" "[I", .methodLink RX2 191 yX2_coreOf, .instanceMethod yX2_coreOf, .selects RX2 yX2_coreOf yX2_coreOf, .initialized RX2, .code yX2_coreOf cX2_coreOf 3 (some .int), .fieldLink RX2 20 "FundBook" "coreShare" "I", .constantLong RX2 189 (100)] ++ wsX20)
def wsX2_deposit_r1 : List Cond := [Cond.classLink RX2 59 "java/lang/IndexOutOfBoundsException", Cond.initialized "java/lang/IndexOutOfBoundsException", Cond.classLink RX2 66 "java/lang/IllegalArgumentException", Cond.initialized "java/lang/IllegalArgumentException", Cond.classLink RX2 84 "java/lang/IllegalStateException", Cond.initialized "java/lang/IllegalStateException", Cond.constant RX2 122 (-10000000), Cond.constant RX2 79 (10000000), Cond.fieldLink RX2 35 "FundBook" "balances" "[I", Cond.fieldLink RX2 23 "FundBook" "now" "I", Cond.fieldLink RX2 41 "FundBook" "replica" "LFundBook$Replica;", Cond.fieldLink RX2 9 "FundBook" "curve" "[I", Cond.methodLink RX2 127 yX2_trancheAmount, Cond.instanceMethod yX2_trancheAmount, Cond.selects RX2 yX2_trancheAmount yX2_trancheAmount, Cond.initialized RX2, Cond.code yX2_trancheAmount cX2_trancheAmount 7 (some .int), Cond.methodLink RX2 191 yX2_coreOf, Cond.instanceMethod yX2_coreOf, Cond.selects RX2 yX2_coreOf yX2_coreOf, Cond.code yX2_coreOf cX2_coreOf 3 (some .int), Cond.fieldLink RX2 20 "FundBook" "coreShare" "I", Cond.constantLong RX2 189 (100), Cond.instanceMethod yX1_layAll]
def wsX2_deposit_r2 : List Cond := [Cond.initialized RX1, Cond.selects RX1 yX1_layAll yX1_layAll, Cond.code yX1_layAll cX1_layAll 4 none, Cond.methodLink RX1 18 yX1_lay, Cond.instanceMethod yX1_lay, Cond.selects RX1 yX1_lay yX1_lay, Cond.code yX1_lay cX1_lay 4 none, Cond.fieldLink RX1 9 "FundBook$Replica" "amounts" "[I", Cond.fieldLink RX1 15 "FundBook$Replica" "rates" "[I"]
def wsX2_deposit : List Cond := .code yX2_deposit cX2_deposit 4 (some .int) :: ((wsX2_deposit_r1 ++ wsX2_deposit_r2) ++ wsX20 ++ wsX10 ++ (vx_atS RX2 63 "java/lang/IndexOutOfBoundsException" ["java/lang/RuntimeException", "java/lang/Exception"]).filter goodWord ++ (vx_atS RX2 70 "java/lang/IllegalArgumentException" ["java/lang/RuntimeException", "java/lang/Exception"]).filter goodWord ++ (vx_atS RX2 88 "java/lang/IllegalStateException" ["java/lang/RuntimeException", "java/lang/Exception"]).filter goodWord)
def wsX2_loanMarginsOfBranch_r1 : List Cond := [Cond.fieldLink RX2 28 "FundBook" "loanRows" "[LFundBook$Loan;", Cond.instanceMethod yX0_ownMargin, Cond.initialized RX0, Cond.selects RX0 yX0_ownMargin yX0_ownMargin, Cond.code yX0_ownMargin cX0_ownMargin 1 (some .int), Cond.methodLink RX0 46 yX0_customerInterest, Cond.instanceMethod yX0_customerInterest, Cond.selects RX0 yX0_customerInterest yX0_customerInterest, Cond.code yX0_customerInterest cX0_customerInterest 1 (some .int), Cond.fieldLink RX0 18 "FundBook$Loan" "rate" "I", Cond.methodLink RX0 38 yX0_unpaid, Cond.instanceMethod yX0_unpaid, Cond.selects RX0 yX0_unpaid yX0_unpaid, Cond.code yX0_unpaid cX0_unpaid 3 (some .int), Cond.fieldLink RX0 35 "FundBook$Loan" "paidParts" "I", Cond.fieldLink RX0 28 "FundBook$Loan" "parts" "[I", Cond.static yX2_forOneMonth, Cond.initialized RX2, Cond.code yX2_forOneMonth cX2_forOneMonth 2 (some .int), Cond.constantLong RX2 187 (120000), Cond.methodLink RX0 49 yX0_funding, Cond.instanceMethod yX0_funding, Cond.selects RX0 yX0_funding yX0_funding, Cond.code yX0_funding cX0_funding 4 (some .int)]
def wsX2_loanMarginsOfBranch_r2 : List Cond := [Cond.fieldLink RX0 32 "FundBook$Loan" "fundingRates" "[I", Cond.methodLink RX0 52 yX0_optionCharge, Cond.instanceMethod yX0_optionCharge, Cond.selects RX0 yX0_optionCharge yX0_optionCharge, Cond.code yX0_optionCharge cX0_optionCharge 1 (some .int), Cond.fieldLink RX0 25 "FundBook$Loan" "optionRate" "I"]
def wsX2_loanMarginsOfBranch : List Cond := .code yX2_loanMarginsOfBranch cX2_loanMarginsOfBranch 7 (some .int) :: ((wsX2_loanMarginsOfBranch_r1 ++ wsX2_loanMarginsOfBranch_r2) ++ wsX20 ++ wsX00)
def wsX2_loanMarginsOfProduct_r1 : List Cond := [Cond.fieldLink RX2 28 "FundBook" "loanRows" "[LFundBook$Loan;", Cond.instanceMethod yX0_ownMargin, Cond.initialized RX0, Cond.selects RX0 yX0_ownMargin yX0_ownMargin, Cond.code yX0_ownMargin cX0_ownMargin 1 (some .int), Cond.methodLink RX0 46 yX0_customerInterest, Cond.instanceMethod yX0_customerInterest, Cond.selects RX0 yX0_customerInterest yX0_customerInterest, Cond.code yX0_customerInterest cX0_customerInterest 1 (some .int), Cond.fieldLink RX0 18 "FundBook$Loan" "rate" "I", Cond.methodLink RX0 38 yX0_unpaid, Cond.instanceMethod yX0_unpaid, Cond.selects RX0 yX0_unpaid yX0_unpaid, Cond.code yX0_unpaid cX0_unpaid 3 (some .int), Cond.fieldLink RX0 35 "FundBook$Loan" "paidParts" "I", Cond.fieldLink RX0 28 "FundBook$Loan" "parts" "[I", Cond.static yX2_forOneMonth, Cond.initialized RX2, Cond.code yX2_forOneMonth cX2_forOneMonth 2 (some .int), Cond.constantLong RX2 187 (120000), Cond.methodLink RX0 49 yX0_funding, Cond.instanceMethod yX0_funding, Cond.selects RX0 yX0_funding yX0_funding, Cond.code yX0_funding cX0_funding 4 (some .int)]
def wsX2_loanMarginsOfProduct_r2 : List Cond := [Cond.fieldLink RX0 32 "FundBook$Loan" "fundingRates" "[I", Cond.methodLink RX0 52 yX0_optionCharge, Cond.instanceMethod yX0_optionCharge, Cond.selects RX0 yX0_optionCharge yX0_optionCharge, Cond.code yX0_optionCharge cX0_optionCharge 1 (some .int), Cond.fieldLink RX0 25 "FundBook$Loan" "optionRate" "I"]
def wsX2_loanMarginsOfProduct : List Cond := .code yX2_loanMarginsOfProduct cX2_loanMarginsOfProduct 7 (some .int) :: ((wsX2_loanMarginsOfProduct_r1 ++ wsX2_loanMarginsOfProduct_r2) ++ wsX20 ++ wsX00)
def wsX2_reckonLoans_r1 : List Cond := [Cond.fieldLink RX2 47 "FundBook" "branchMargins" "[[I", Cond.fieldLink RX2 23 "FundBook" "now" "I", Cond.fieldLink RX2 50 "FundBook" "productMargins" "[[I", Cond.fieldLink RX2 28 "FundBook" "loanRows" "[LFundBook$Loan;", Cond.fieldLink RX2 53 "FundBook" "treasuryMargins" "[I", Cond.fieldLink RX2 56 "FundBook" "bankInterests" "[I", Cond.methodLink RX2 195 yX2_loanMarginsOfBranch, Cond.instanceMethod yX2_loanMarginsOfBranch, Cond.selects RX2 yX2_loanMarginsOfBranch yX2_loanMarginsOfBranch, Cond.initialized RX2, Cond.code yX2_loanMarginsOfBranch cX2_loanMarginsOfBranch 7 (some .int), Cond.instanceMethod yX0_ownMargin, Cond.initialized RX0, Cond.selects RX0 yX0_ownMargin yX0_ownMargin, Cond.code yX0_ownMargin cX0_ownMargin 1 (some .int), Cond.methodLink RX0 46 yX0_customerInterest, Cond.instanceMethod yX0_customerInterest, Cond.selects RX0 yX0_customerInterest yX0_customerInterest, Cond.code yX0_customerInterest cX0_customerInterest 1 (some .int), Cond.fieldLink RX0 18 "FundBook$Loan" "rate" "I", Cond.methodLink RX0 38 yX0_unpaid, Cond.instanceMethod yX0_unpaid, Cond.selects RX0 yX0_unpaid yX0_unpaid, Cond.code yX0_unpaid cX0_unpaid 3 (some .int)]
def wsX2_reckonLoans_r2 : List Cond := [Cond.fieldLink RX0 35 "FundBook$Loan" "paidParts" "I", Cond.fieldLink RX0 28 "FundBook$Loan" "parts" "[I", Cond.static yX2_forOneMonth, Cond.code yX2_forOneMonth cX2_forOneMonth 2 (some .int), Cond.constantLong RX2 187 (120000), Cond.methodLink RX0 49 yX0_funding, Cond.instanceMethod yX0_funding, Cond.selects RX0 yX0_funding yX0_funding, Cond.code yX0_funding cX0_funding 4 (some .int), Cond.fieldLink RX0 32 "FundBook$Loan" "fundingRates" "[I", Cond.methodLink RX0 52 yX0_optionCharge, Cond.instanceMethod yX0_optionCharge, Cond.selects RX0 yX0_optionCharge yX0_optionCharge, Cond.code yX0_optionCharge cX0_optionCharge 1 (some .int), Cond.fieldLink RX0 25 "FundBook$Loan" "optionRate" "I", Cond.methodLink RX2 198 yX2_loanMarginsOfProduct, Cond.instanceMethod yX2_loanMarginsOfProduct, Cond.selects RX2 yX2_loanMarginsOfProduct yX2_loanMarginsOfProduct, Cond.code yX2_loanMarginsOfProduct cX2_loanMarginsOfProduct 7 (some .int)]
def wsX2_reckonLoans : List Cond := .code yX2_reckonLoans cX2_reckonLoans 7 none :: ((wsX2_reckonLoans_r1 ++ wsX2_reckonLoans_r2) ++ wsX20 ++ wsX00)
def wsX2_paidForDeposits : List Cond := .code yX2_paidForDeposits cX2_paidForDeposits 5 (some .int) :: ([.fieldLink RX2 9 "FundBook" "curve" "[I", .methodLink RX2 191 yX2_coreOf, .instanceMethod yX2_coreOf, .selects RX2 yX2_coreOf yX2_coreOf, .initialized RX2, .code yX2_coreOf cX2_coreOf 3 (some .int), .fieldLink RX2 20 "FundBook" "coreShare" "I", .constantLong RX2 189 (100), .methodLink RX2 211 yX2_forOneMonth, .static yX2_forOneMonth, .code yX2_forOneMonth cX2_forOneMonth 2 (some .int), .constantLong RX2 187 (120000)] ++ wsX20)
def wsX2_reckonDeposits_r1 : List Cond := [Cond.fieldLink RX2 41 "FundBook" "replica" "LFundBook$Replica;", Cond.fieldLink RX2 35 "FundBook" "balances" "[I", Cond.fieldLink RX2 13 "FundBook" "depositRate" "I", Cond.fieldLink RX2 47 "FundBook" "branchMargins" "[[I", Cond.fieldLink RX2 23 "FundBook" "now" "I", Cond.fieldLink RX2 53 "FundBook" "treasuryMargins" "[I", Cond.fieldLink RX2 56 "FundBook" "bankInterests" "[I", Cond.instanceMethod yX1_averageRate, Cond.initialized RX1, Cond.selects RX1 yX1_averageRate yX1_averageRate, Cond.code yX1_averageRate cX1_averageRate 6 (some .int), Cond.fieldLink RX1 9 "FundBook$Replica" "amounts" "[I", Cond.fieldLink RX1 15 "FundBook$Replica" "rates" "[I", Cond.methodLink RX2 207 yX2_paidForDeposits, Cond.instanceMethod yX2_paidForDeposits, Cond.selects RX2 yX2_paidForDeposits yX2_paidForDeposits, Cond.initialized RX2, Cond.code yX2_paidForDeposits cX2_paidForDeposits 5 (some .int), Cond.fieldLink RX2 9 "FundBook" "curve" "[I", Cond.methodLink RX2 191 yX2_coreOf, Cond.instanceMethod yX2_coreOf, Cond.selects RX2 yX2_coreOf yX2_coreOf, Cond.code yX2_coreOf cX2_coreOf 3 (some .int), Cond.fieldLink RX2 20 "FundBook" "coreShare" "I"]
def wsX2_reckonDeposits_r2 : List Cond := [Cond.constantLong RX2 189 (100), Cond.methodLink RX2 211 yX2_forOneMonth, Cond.static yX2_forOneMonth, Cond.code yX2_forOneMonth cX2_forOneMonth 2 (some .int), Cond.constantLong RX2 187 (120000)]
def wsX2_reckonDeposits : List Cond := .code yX2_reckonDeposits cX2_reckonDeposits 5 none :: ((wsX2_reckonDeposits_r1 ++ wsX2_reckonDeposits_r2) ++ wsX20 ++ wsX10)
def wsX2_payParts : List Cond := .code yX2_payParts cX2_payParts 5 none :: ([.fieldLink RX2 28 "FundBook" "loanRows" "[LFundBook$Loan;", .instanceMethod yX0_payPart, .initialized RX0, .selects RX0 yX0_payPart yX0_payPart, .code yX0_payPart cX0_payPart 1 none, .fieldLink RX0 35 "FundBook$Loan" "paidParts" "I"] ++ wsX20 ++ wsX00)
def wsX2_closeMonth_r1 : List Cond := [Cond.classLink RX2 84 "java/lang/IllegalStateException", Cond.initialized "java/lang/IllegalStateException", Cond.fieldLink RX2 23 "FundBook" "now" "I", Cond.fieldLink RX2 41 "FundBook" "replica" "LFundBook$Replica;", Cond.fieldLink RX2 9 "FundBook" "curve" "[I", Cond.methodLink RX2 136 yX2_reckonLoans, Cond.instanceMethod yX2_reckonLoans, Cond.selects RX2 yX2_reckonLoans yX2_reckonLoans, Cond.initialized RX2, Cond.code yX2_reckonLoans cX2_reckonLoans 7 none, Cond.fieldLink RX2 47 "FundBook" "branchMargins" "[[I", Cond.fieldLink RX2 50 "FundBook" "productMargins" "[[I", Cond.fieldLink RX2 28 "FundBook" "loanRows" "[LFundBook$Loan;", Cond.fieldLink RX2 53 "FundBook" "treasuryMargins" "[I", Cond.fieldLink RX2 56 "FundBook" "bankInterests" "[I", Cond.methodLink RX2 195 yX2_loanMarginsOfBranch, Cond.instanceMethod yX2_loanMarginsOfBranch, Cond.selects RX2 yX2_loanMarginsOfBranch yX2_loanMarginsOfBranch, Cond.code yX2_loanMarginsOfBranch cX2_loanMarginsOfBranch 7 (some .int), Cond.instanceMethod yX0_ownMargin, Cond.initialized RX0, Cond.selects RX0 yX0_ownMargin yX0_ownMargin, Cond.code yX0_ownMargin cX0_ownMargin 1 (some .int), Cond.methodLink RX0 46 yX0_customerInterest]
def wsX2_closeMonth_r2 : List Cond := [Cond.instanceMethod yX0_customerInterest, Cond.selects RX0 yX0_customerInterest yX0_customerInterest, Cond.code yX0_customerInterest cX0_customerInterest 1 (some .int), Cond.fieldLink RX0 18 "FundBook$Loan" "rate" "I", Cond.methodLink RX0 38 yX0_unpaid, Cond.instanceMethod yX0_unpaid, Cond.selects RX0 yX0_unpaid yX0_unpaid, Cond.code yX0_unpaid cX0_unpaid 3 (some .int), Cond.fieldLink RX0 35 "FundBook$Loan" "paidParts" "I", Cond.fieldLink RX0 28 "FundBook$Loan" "parts" "[I", Cond.static yX2_forOneMonth, Cond.code yX2_forOneMonth cX2_forOneMonth 2 (some .int), Cond.constantLong RX2 187 (120000), Cond.methodLink RX0 49 yX0_funding, Cond.instanceMethod yX0_funding, Cond.selects RX0 yX0_funding yX0_funding, Cond.code yX0_funding cX0_funding 4 (some .int), Cond.fieldLink RX0 32 "FundBook$Loan" "fundingRates" "[I", Cond.methodLink RX0 52 yX0_optionCharge, Cond.instanceMethod yX0_optionCharge, Cond.selects RX0 yX0_optionCharge yX0_optionCharge, Cond.code yX0_optionCharge cX0_optionCharge 1 (some .int), Cond.fieldLink RX0 25 "FundBook$Loan" "optionRate" "I", Cond.methodLink RX2 198 yX2_loanMarginsOfProduct]
def wsX2_closeMonth_r3 : List Cond := [Cond.instanceMethod yX2_loanMarginsOfProduct, Cond.selects RX2 yX2_loanMarginsOfProduct yX2_loanMarginsOfProduct, Cond.code yX2_loanMarginsOfProduct cX2_loanMarginsOfProduct 7 (some .int), Cond.methodLink RX2 139 yX2_reckonDeposits, Cond.instanceMethod yX2_reckonDeposits, Cond.selects RX2 yX2_reckonDeposits yX2_reckonDeposits, Cond.code yX2_reckonDeposits cX2_reckonDeposits 5 none, Cond.fieldLink RX2 35 "FundBook" "balances" "[I", Cond.fieldLink RX2 13 "FundBook" "depositRate" "I", Cond.instanceMethod yX1_averageRate, Cond.initialized RX1, Cond.selects RX1 yX1_averageRate yX1_averageRate, Cond.code yX1_averageRate cX1_averageRate 6 (some .int), Cond.fieldLink RX1 9 "FundBook$Replica" "amounts" "[I", Cond.fieldLink RX1 15 "FundBook$Replica" "rates" "[I", Cond.methodLink RX2 207 yX2_paidForDeposits, Cond.instanceMethod yX2_paidForDeposits, Cond.selects RX2 yX2_paidForDeposits yX2_paidForDeposits, Cond.code yX2_paidForDeposits cX2_paidForDeposits 5 (some .int), Cond.methodLink RX2 191 yX2_coreOf, Cond.instanceMethod yX2_coreOf, Cond.selects RX2 yX2_coreOf yX2_coreOf, Cond.code yX2_coreOf cX2_coreOf 3 (some .int), Cond.fieldLink RX2 20 "FundBook" "coreShare" "I"]
def wsX2_closeMonth_r4 : List Cond := [Cond.constantLong RX2 189 (100), Cond.methodLink RX2 211 yX2_forOneMonth, Cond.methodLink RX2 142 yX2_payParts, Cond.instanceMethod yX2_payParts, Cond.selects RX2 yX2_payParts yX2_payParts, Cond.code yX2_payParts cX2_payParts 5 none, Cond.instanceMethod yX0_payPart, Cond.selects RX0 yX0_payPart yX0_payPart, Cond.code yX0_payPart cX0_payPart 1 none, Cond.methodLink RX2 127 yX2_trancheAmount, Cond.instanceMethod yX2_trancheAmount, Cond.selects RX2 yX2_trancheAmount yX2_trancheAmount, Cond.code yX2_trancheAmount cX2_trancheAmount 7 (some .int), Cond.instanceMethod yX1_lay, Cond.selects RX1 yX1_lay yX1_lay, Cond.code yX1_lay cX1_lay 4 none]
def wsX2_closeMonth : List Cond := .code yX2_closeMonth cX2_closeMonth 1 (some .int) :: ((wsX2_closeMonth_r1 ++ (wsX2_closeMonth_r2 ++ (wsX2_closeMonth_r3 ++ wsX2_closeMonth_r4))) ++ wsX20 ++ wsX00 ++ wsX10 ++ (vx_atS RX2 88 "java/lang/IllegalStateException" ["java/lang/RuntimeException", "java/lang/Exception"]).filter goodWord)
def wsX2_month : List Cond := .code yX2_month cX2_month 1 (some .int) :: ([.fieldLink RX2 23 "FundBook" "now" "I"] ++ wsX20)
def wsX2_loans : List Cond := .code yX2_loans cX2_loans 1 (some .int) :: ([.fieldLink RX2 32 "FundBook" "loanCount" "I"] ++ wsX20)
def wsX2_left : List Cond := .code yX2_left cX2_left 3 (some .int) :: ([.classLink RX2 59 "java/lang/IndexOutOfBoundsException", .initialized "java/lang/IndexOutOfBoundsException", .methodLink RX2 101 yX2_findLoan, .instanceMethod yX2_findLoan, .selects RX2 yX2_findLoan yX2_findLoan, .initialized RX2, .code yX2_findLoan cX2_findLoan 2 (some (.object "FundBook$Loan")), .fieldLink RX2 28 "FundBook" "loanRows" "[LFundBook$Loan;", .instanceMethod yX0_unpaid, .initialized RX0, .selects RX0 yX0_unpaid yX0_unpaid, .code yX0_unpaid cX0_unpaid 3 (some .int), .fieldLink RX0 35 "FundBook$Loan" "paidParts" "I", .fieldLink RX0 28 "FundBook$Loan" "parts" "[I"] ++ wsX20 ++ wsX00 ++ (vx_atS RX2 63 "java/lang/IndexOutOfBoundsException" ["java/lang/RuntimeException", "java/lang/Exception"]).filter goodWord)
def wsX2_bears_r1 : List Cond := [Cond.classLink RX2 59 "java/lang/IndexOutOfBoundsException", Cond.initialized "java/lang/IndexOutOfBoundsException", Cond.classLink RX2 66 "java/lang/IllegalArgumentException", Cond.initialized "java/lang/IllegalArgumentException", Cond.methodLink RX2 101 yX2_findLoan, Cond.instanceMethod yX2_findLoan, Cond.selects RX2 yX2_findLoan yX2_findLoan, Cond.initialized RX2, Cond.code yX2_findLoan cX2_findLoan 2 (some (.object "FundBook$Loan")), Cond.fieldLink RX2 28 "FundBook" "loanRows" "[LFundBook$Loan;", Cond.instanceMethod yX0_customerInterest, Cond.initialized RX0, Cond.selects RX0 yX0_customerInterest yX0_customerInterest, Cond.code yX0_customerInterest cX0_customerInterest 1 (some .int), Cond.fieldLink RX0 18 "FundBook$Loan" "rate" "I", Cond.methodLink RX0 38 yX0_unpaid, Cond.instanceMethod yX0_unpaid, Cond.selects RX0 yX0_unpaid yX0_unpaid, Cond.code yX0_unpaid cX0_unpaid 3 (some .int), Cond.fieldLink RX0 35 "FundBook$Loan" "paidParts" "I", Cond.fieldLink RX0 28 "FundBook$Loan" "parts" "[I", Cond.static yX2_forOneMonth, Cond.code yX2_forOneMonth cX2_forOneMonth 2 (some .int), Cond.constantLong RX2 187 (120000)]
def wsX2_bears_r2 : List Cond := [Cond.instanceMethod yX0_funding, Cond.selects RX0 yX0_funding yX0_funding, Cond.code yX0_funding cX0_funding 4 (some .int), Cond.fieldLink RX0 32 "FundBook$Loan" "fundingRates" "[I", Cond.instanceMethod yX0_optionCharge, Cond.selects RX0 yX0_optionCharge yX0_optionCharge, Cond.code yX0_optionCharge cX0_optionCharge 1 (some .int), Cond.fieldLink RX0 25 "FundBook$Loan" "optionRate" "I", Cond.instanceMethod yX0_ownMargin, Cond.selects RX0 yX0_ownMargin yX0_ownMargin, Cond.code yX0_ownMargin cX0_ownMargin 1 (some .int), Cond.methodLink RX0 46 yX0_customerInterest, Cond.methodLink RX0 49 yX0_funding, Cond.methodLink RX0 52 yX0_optionCharge]
def wsX2_bears : List Cond := .code yX2_bears cX2_bears 4 (some .int) :: ((wsX2_bears_r1 ++ wsX2_bears_r2) ++ wsX20 ++ wsX00 ++ (vx_atS RX2 63 "java/lang/IndexOutOfBoundsException" ["java/lang/RuntimeException", "java/lang/Exception"]).filter goodWord ++ (vx_atS RX2 70 "java/lang/IllegalArgumentException" ["java/lang/RuntimeException", "java/lang/Exception"]).filter goodWord)
def wsX2_due : List Cond := .code yX2_due cX2_due 7 (some .int) :: ([.classLink RX2 66 "java/lang/IllegalArgumentException", .initialized "java/lang/IllegalArgumentException", .fieldLink RX2 28 "FundBook" "loanRows" "[LFundBook$Loan;", .instanceMethod yX0_partAhead, .initialized RX0, .selects RX0 yX0_partAhead yX0_partAhead, .code yX0_partAhead cX0_partAhead 3 (some .int), .fieldLink RX0 35 "FundBook$Loan" "paidParts" "I", .fieldLink RX0 28 "FundBook$Loan" "parts" "[I"] ++ wsX20 ++ wsX00 ++ (vx_atS RX2 70 "java/lang/IllegalArgumentException" ["java/lang/RuntimeException", "java/lang/Exception"]).filter goodWord)
def wsX2_balance : List Cond := .code yX2_balance cX2_balance 2 (some .int) :: ([.classLink RX2 59 "java/lang/IndexOutOfBoundsException", .initialized "java/lang/IndexOutOfBoundsException", .fieldLink RX2 35 "FundBook" "balances" "[I"] ++ wsX20 ++ (vx_atS RX2 63 "java/lang/IndexOutOfBoundsException" ["java/lang/RuntimeException", "java/lang/Exception"]).filter goodWord)
def wsX2_tranche : List Cond := .code yX2_tranche cX2_tranche 2 (some .int) :: ([.classLink RX2 59 "java/lang/IndexOutOfBoundsException", .initialized "java/lang/IndexOutOfBoundsException", .fieldLink RX2 41 "FundBook" "replica" "LFundBook$Replica;"] ++ wsX20 ++ wsX10 ++ (vx_atS RX2 63 "java/lang/IndexOutOfBoundsException" ["java/lang/RuntimeException", "java/lang/Exception"]).filter goodWord)
def wsX2_replicaRate : List Cond := .code yX2_replicaRate cX2_replicaRate 1 (some .int) :: ([.fieldLink RX2 41 "FundBook" "replica" "LFundBook$Replica;", .instanceMethod yX1_averageRate, .initialized RX1, .selects RX1 yX1_averageRate yX1_averageRate, .code yX1_averageRate cX1_averageRate 6 (some .int), .fieldLink RX1 9 "FundBook$Replica" "amounts" "[I", .fieldLink RX1 15 "FundBook$Replica" "rates" "[I"] ++ wsX20 ++ wsX10)
def wsX2_hasEnded : List Cond := .code yX2_hasEnded cX2_hasEnded 2 (some .boolean) :: ([.fieldLink RX2 23 "FundBook" "now" "I"] ++ wsX20)
def wsX2_margin : List Cond := .code yX2_margin cX2_margin 3 (some .int) :: ([.classLink RX2 59 "java/lang/IndexOutOfBoundsException", .initialized "java/lang/IndexOutOfBoundsException", .fieldLink RX2 47 "FundBook" "branchMargins" "[[I", .methodLink RX2 177 yX2_hasEnded, .instanceMethod yX2_hasEnded, .selects RX2 yX2_hasEnded yX2_hasEnded, .initialized RX2, .code yX2_hasEnded cX2_hasEnded 2 (some .boolean), .fieldLink RX2 23 "FundBook" "now" "I"] ++ wsX20 ++ (vx_atS RX2 63 "java/lang/IndexOutOfBoundsException" ["java/lang/RuntimeException", "java/lang/Exception"]).filter goodWord)
def wsX2_byProduct : List Cond := .code yX2_byProduct cX2_byProduct 3 (some .int) :: ([.classLink RX2 59 "java/lang/IndexOutOfBoundsException", .initialized "java/lang/IndexOutOfBoundsException", .fieldLink RX2 50 "FundBook" "productMargins" "[[I", .methodLink RX2 177 yX2_hasEnded, .instanceMethod yX2_hasEnded, .selects RX2 yX2_hasEnded yX2_hasEnded, .initialized RX2, .code yX2_hasEnded cX2_hasEnded 2 (some .boolean), .fieldLink RX2 23 "FundBook" "now" "I"] ++ wsX20 ++ (vx_atS RX2 63 "java/lang/IndexOutOfBoundsException" ["java/lang/RuntimeException", "java/lang/Exception"]).filter goodWord)
def wsX2_treasury : List Cond := .code yX2_treasury cX2_treasury 2 (some .int) :: ([.classLink RX2 59 "java/lang/IndexOutOfBoundsException", .initialized "java/lang/IndexOutOfBoundsException", .fieldLink RX2 53 "FundBook" "treasuryMargins" "[I", .methodLink RX2 177 yX2_hasEnded, .instanceMethod yX2_hasEnded, .selects RX2 yX2_hasEnded yX2_hasEnded, .initialized RX2, .code yX2_hasEnded cX2_hasEnded 2 (some .boolean), .fieldLink RX2 23 "FundBook" "now" "I"] ++ wsX20 ++ (vx_atS RX2 63 "java/lang/IndexOutOfBoundsException" ["java/lang/RuntimeException", "java/lang/Exception"]).filter goodWord)
def wsX2_interest : List Cond := .code yX2_interest cX2_interest 2 (some .int) :: ([.classLink RX2 59 "java/lang/IndexOutOfBoundsException", .initialized "java/lang/IndexOutOfBoundsException", .fieldLink RX2 56 "FundBook" "bankInterests" "[I", .methodLink RX2 177 yX2_hasEnded, .instanceMethod yX2_hasEnded, .selects RX2 yX2_hasEnded yX2_hasEnded, .initialized RX2, .code yX2_hasEnded cX2_hasEnded 2 (some .boolean), .fieldLink RX2 23 "FundBook" "now" "I"] ++ wsX20 ++ (vx_atS RX2 63 "java/lang/IndexOutOfBoundsException" ["java/lang/RuntimeException", "java/lang/Exception"]).filter goodWord)
def wsL_cell : List Cond := .code yL_cell cL_cell 2 (some .int) :: ([.constant RL 7 (52859), .constant RL 8 (2048981)])
def wsL_low : List Cond := .code yL_low cL_low 2 (some .int) :: ([.constant RL 9 (2147483647)])
def wsL_calls_r1 : List Cond := [Cond.classLink RL 24 "java/lang/IllegalStateException", Cond.methodLink RL 10 yX2_repay, Cond.instanceMethod yX2_repay, Cond.selects RX2 yX2_repay yX2_repay, Cond.initialized RX2, Cond.code yX2_repay cX2_repay 4 (some .int), Cond.classLink RX2 59 "java/lang/IndexOutOfBoundsException", Cond.initialized "java/lang/IndexOutOfBoundsException", Cond.classLink RX2 84 "java/lang/IllegalStateException", Cond.initialized "java/lang/IllegalStateException", Cond.methodLink RX2 101 yX2_findLoan, Cond.instanceMethod yX2_findLoan, Cond.selects RX2 yX2_findLoan yX2_findLoan, Cond.code yX2_findLoan cX2_findLoan 2 (some (.object "FundBook$Loan")), Cond.fieldLink RX2 28 "FundBook" "loanRows" "[LFundBook$Loan;", Cond.instanceMethod yX0_unpaid, Cond.initialized RX0, Cond.selects RX0 yX0_unpaid yX0_unpaid, Cond.code yX0_unpaid cX0_unpaid 3 (some .int), Cond.fieldLink RX0 35 "FundBook$Loan" "paidParts" "I", Cond.fieldLink RX0 28 "FundBook$Loan" "parts" "[I", Cond.instanceMethod yX0_settle, Cond.selects RX0 yX0_settle yX0_settle, Cond.code yX0_settle cX0_settle 1 none]
def wsL_calls_r2 : List Cond := [Cond.methodLink RL 16 yX2_deposit, Cond.instanceMethod yX2_deposit, Cond.selects RX2 yX2_deposit yX2_deposit, Cond.code yX2_deposit cX2_deposit 4 (some .int), Cond.classLink RX2 66 "java/lang/IllegalArgumentException", Cond.initialized "java/lang/IllegalArgumentException", Cond.constant RX2 122 (-10000000), Cond.constant RX2 79 (10000000), Cond.fieldLink RX2 35 "FundBook" "balances" "[I", Cond.fieldLink RX2 23 "FundBook" "now" "I", Cond.fieldLink RX2 41 "FundBook" "replica" "LFundBook$Replica;", Cond.fieldLink RX2 9 "FundBook" "curve" "[I", Cond.methodLink RX2 127 yX2_trancheAmount, Cond.instanceMethod yX2_trancheAmount, Cond.selects RX2 yX2_trancheAmount yX2_trancheAmount, Cond.code yX2_trancheAmount cX2_trancheAmount 7 (some .int), Cond.methodLink RX2 191 yX2_coreOf, Cond.instanceMethod yX2_coreOf, Cond.selects RX2 yX2_coreOf yX2_coreOf, Cond.code yX2_coreOf cX2_coreOf 3 (some .int), Cond.fieldLink RX2 20 "FundBook" "coreShare" "I", Cond.constantLong RX2 189 (100), Cond.instanceMethod yX1_layAll, Cond.initialized RX1]
def wsL_calls_r3 : List Cond := [Cond.selects RX1 yX1_layAll yX1_layAll, Cond.code yX1_layAll cX1_layAll 4 none, Cond.methodLink RX1 18 yX1_lay, Cond.instanceMethod yX1_lay, Cond.selects RX1 yX1_lay yX1_lay, Cond.code yX1_lay cX1_lay 4 none, Cond.fieldLink RX1 9 "FundBook$Replica" "amounts" "[I", Cond.fieldLink RX1 15 "FundBook$Replica" "rates" "[I", Cond.methodLink RL 20 yX2_closeMonth, Cond.instanceMethod yX2_closeMonth, Cond.selects RX2 yX2_closeMonth yX2_closeMonth, Cond.code yX2_closeMonth cX2_closeMonth 1 (some .int), Cond.methodLink RX2 136 yX2_reckonLoans, Cond.instanceMethod yX2_reckonLoans, Cond.selects RX2 yX2_reckonLoans yX2_reckonLoans, Cond.code yX2_reckonLoans cX2_reckonLoans 7 none, Cond.fieldLink RX2 47 "FundBook" "branchMargins" "[[I", Cond.fieldLink RX2 50 "FundBook" "productMargins" "[[I", Cond.fieldLink RX2 53 "FundBook" "treasuryMargins" "[I", Cond.fieldLink RX2 56 "FundBook" "bankInterests" "[I", Cond.methodLink RX2 195 yX2_loanMarginsOfBranch, Cond.instanceMethod yX2_loanMarginsOfBranch, Cond.selects RX2 yX2_loanMarginsOfBranch yX2_loanMarginsOfBranch, Cond.code yX2_loanMarginsOfBranch cX2_loanMarginsOfBranch 7 (some .int)]
def wsL_calls_r4 : List Cond := [Cond.instanceMethod yX0_ownMargin, Cond.selects RX0 yX0_ownMargin yX0_ownMargin, Cond.code yX0_ownMargin cX0_ownMargin 1 (some .int), Cond.methodLink RX0 46 yX0_customerInterest, Cond.instanceMethod yX0_customerInterest, Cond.selects RX0 yX0_customerInterest yX0_customerInterest, Cond.code yX0_customerInterest cX0_customerInterest 1 (some .int), Cond.fieldLink RX0 18 "FundBook$Loan" "rate" "I", Cond.methodLink RX0 38 yX0_unpaid, Cond.static yX2_forOneMonth, Cond.code yX2_forOneMonth cX2_forOneMonth 2 (some .int), Cond.constantLong RX2 187 (120000), Cond.methodLink RX0 49 yX0_funding, Cond.instanceMethod yX0_funding, Cond.selects RX0 yX0_funding yX0_funding, Cond.code yX0_funding cX0_funding 4 (some .int), Cond.fieldLink RX0 32 "FundBook$Loan" "fundingRates" "[I", Cond.methodLink RX0 52 yX0_optionCharge, Cond.instanceMethod yX0_optionCharge, Cond.selects RX0 yX0_optionCharge yX0_optionCharge, Cond.code yX0_optionCharge cX0_optionCharge 1 (some .int), Cond.fieldLink RX0 25 "FundBook$Loan" "optionRate" "I", Cond.methodLink RX2 198 yX2_loanMarginsOfProduct, Cond.instanceMethod yX2_loanMarginsOfProduct]
def wsL_calls_r5 : List Cond := [Cond.selects RX2 yX2_loanMarginsOfProduct yX2_loanMarginsOfProduct, Cond.code yX2_loanMarginsOfProduct cX2_loanMarginsOfProduct 7 (some .int), Cond.methodLink RX2 139 yX2_reckonDeposits, Cond.instanceMethod yX2_reckonDeposits, Cond.selects RX2 yX2_reckonDeposits yX2_reckonDeposits, Cond.code yX2_reckonDeposits cX2_reckonDeposits 5 none, Cond.fieldLink RX2 13 "FundBook" "depositRate" "I", Cond.instanceMethod yX1_averageRate, Cond.selects RX1 yX1_averageRate yX1_averageRate, Cond.code yX1_averageRate cX1_averageRate 6 (some .int), Cond.methodLink RX2 207 yX2_paidForDeposits, Cond.instanceMethod yX2_paidForDeposits, Cond.selects RX2 yX2_paidForDeposits yX2_paidForDeposits, Cond.code yX2_paidForDeposits cX2_paidForDeposits 5 (some .int), Cond.methodLink RX2 211 yX2_forOneMonth, Cond.methodLink RX2 142 yX2_payParts, Cond.instanceMethod yX2_payParts, Cond.selects RX2 yX2_payParts yX2_payParts, Cond.code yX2_payParts cX2_payParts 5 none, Cond.instanceMethod yX0_payPart, Cond.selects RX0 yX0_payPart yX0_payPart, Cond.code yX0_payPart cX0_payPart 1 none]
def wsL_calls : List Cond := .codeWith yL_calls cL_calls 5 (some .int) [(0, 30, 31, 24)] :: ((wsL_calls_r1 ++ (wsL_calls_r2 ++ (wsL_calls_r3 ++ (wsL_calls_r4 ++ wsL_calls_r5)))) ++ wsX00 ++ wsX20 ++ wsX10 ++ (vx_atS RX2 63 "java/lang/IndexOutOfBoundsException" ["java/lang/RuntimeException", "java/lang/Exception"]).filter goodWord ++ (vx_atS RX2 88 "java/lang/IllegalStateException" ["java/lang/RuntimeException", "java/lang/Exception"]).filter goodWord ++ (vx_atS RX2 70 "java/lang/IllegalArgumentException" ["java/lang/RuntimeException", "java/lang/Exception"]).filter goodWord)
def wsL_part : List Cond := .code yL_part cL_part 8 (some .int) :: ([])
def wsL_left : List Cond := .code yL_left cL_left 5 (some .int) :: ([.methodLink RL 26 yL_part, .static yL_part, .initialized RL, .code yL_part cL_part 8 (some .int)])
def wsL_bears : List Cond := .code yL_bears cL_bears 9 (some .int) :: ([.constantLong RL 36 (120000), .methodLink RL 32 yL_left, .static yL_left, .initialized RL, .code yL_left cL_left 5 (some .int), .methodLink RL 26 yL_part, .static yL_part, .code yL_part cL_part 8 (some .int)])
def wsL_rate : List Cond := .code yL_rate cL_rate 6 (some .int) :: ([])
def wsL_lay : List Cond := .code yL_lay cL_lay 5 none :: ([.constantLong RL 38 (100)])
def wsL_branch : List Cond := .code yL_branch cL_branch 7 (some .int) :: ([.constantLong RL 38 (100), .constantLong RL 36 (120000), .methodLink RL 40 yL_rate, .static yL_rate, .initialized RL, .code yL_rate cL_rate 6 (some .int)])
def wsL_closes : List Cond := .code yL_closes cL_closes 9 none :: ([.constantLong RL 36 (120000), .methodLink RL 44 yL_branch, .static yL_branch, .initialized RL, .code yL_branch cL_branch 7 (some .int), .constantLong RL 38 (100), .methodLink RL 40 yL_rate, .static yL_rate, .code yL_rate cL_rate 6 (some .int), .methodLink RL 47 yL_bears, .static yL_bears, .code yL_bears cL_bears 9 (some .int), .methodLink RL 32 yL_left, .static yL_left, .code yL_left cL_left 5 (some .int), .methodLink RL 26 yL_part, .static yL_part, .code yL_part cL_part 8 (some .int), .methodLink RL 51 yL_lay, .static yL_lay, .code yL_lay cL_lay 5 none])
def wsL_isSo_r1 : List Cond := [Cond.methodLink RL 55 yX2_month, Cond.instanceMethod yX2_month, Cond.selects RX2 yX2_month yX2_month, Cond.initialized RX2, Cond.code yX2_month cX2_month 1 (some .int), Cond.fieldLink RX2 23 "FundBook" "now" "I", Cond.methodLink RL 58 yX2_loans, Cond.instanceMethod yX2_loans, Cond.selects RX2 yX2_loans yX2_loans, Cond.code yX2_loans cX2_loans 1 (some .int), Cond.fieldLink RX2 32 "FundBook" "loanCount" "I", Cond.methodLink RL 61 yX2_replicaRate, Cond.instanceMethod yX2_replicaRate, Cond.selects RX2 yX2_replicaRate yX2_replicaRate, Cond.code yX2_replicaRate cX2_replicaRate 1 (some .int), Cond.fieldLink RX2 41 "FundBook" "replica" "LFundBook$Replica;", Cond.instanceMethod yX1_averageRate, Cond.initialized RX1, Cond.selects RX1 yX1_averageRate yX1_averageRate, Cond.code yX1_averageRate cX1_averageRate 6 (some .int), Cond.fieldLink RX1 9 "FundBook$Replica" "amounts" "[I", Cond.fieldLink RX1 15 "FundBook$Replica" "rates" "[I", Cond.methodLink RL 40 yL_rate, Cond.static yL_rate]
def wsL_isSo_r2 : List Cond := [Cond.initialized RL, Cond.code yL_rate cL_rate 6 (some .int), Cond.methodLink RL 47 yL_bears, Cond.static yL_bears, Cond.code yL_bears cL_bears 9 (some .int), Cond.constantLong RL 36 (120000), Cond.methodLink RL 32 yL_left, Cond.static yL_left, Cond.code yL_left cL_left 5 (some .int), Cond.methodLink RL 26 yL_part, Cond.static yL_part, Cond.code yL_part cL_part 8 (some .int), Cond.methodLink RL 64 yX2_left, Cond.instanceMethod yX2_left, Cond.selects RX2 yX2_left yX2_left, Cond.code yX2_left cX2_left 3 (some .int), Cond.classLink RX2 59 "java/lang/IndexOutOfBoundsException", Cond.initialized "java/lang/IndexOutOfBoundsException", Cond.methodLink RX2 101 yX2_findLoan, Cond.instanceMethod yX2_findLoan, Cond.selects RX2 yX2_findLoan yX2_findLoan, Cond.code yX2_findLoan cX2_findLoan 2 (some (.object "FundBook$Loan")), Cond.fieldLink RX2 28 "FundBook" "loanRows" "[LFundBook$Loan;", Cond.instanceMethod yX0_unpaid]
def wsL_isSo_r3 : List Cond := [Cond.initialized RX0, Cond.selects RX0 yX0_unpaid yX0_unpaid, Cond.code yX0_unpaid cX0_unpaid 3 (some .int), Cond.fieldLink RX0 35 "FundBook$Loan" "paidParts" "I", Cond.fieldLink RX0 28 "FundBook$Loan" "parts" "[I", Cond.methodLink RL 66 yX2_bears, Cond.instanceMethod yX2_bears, Cond.selects RX2 yX2_bears yX2_bears, Cond.code yX2_bears cX2_bears 4 (some .int), Cond.classLink RX2 66 "java/lang/IllegalArgumentException", Cond.initialized "java/lang/IllegalArgumentException", Cond.instanceMethod yX0_customerInterest, Cond.selects RX0 yX0_customerInterest yX0_customerInterest, Cond.code yX0_customerInterest cX0_customerInterest 1 (some .int), Cond.fieldLink RX0 18 "FundBook$Loan" "rate" "I", Cond.methodLink RX0 38 yX0_unpaid, Cond.static yX2_forOneMonth, Cond.code yX2_forOneMonth cX2_forOneMonth 2 (some .int), Cond.constantLong RX2 187 (120000), Cond.instanceMethod yX0_funding, Cond.selects RX0 yX0_funding yX0_funding, Cond.code yX0_funding cX0_funding 4 (some .int), Cond.fieldLink RX0 32 "FundBook$Loan" "fundingRates" "[I", Cond.instanceMethod yX0_optionCharge]
def wsL_isSo_r4 : List Cond := [Cond.selects RX0 yX0_optionCharge yX0_optionCharge, Cond.code yX0_optionCharge cX0_optionCharge 1 (some .int), Cond.fieldLink RX0 25 "FundBook$Loan" "optionRate" "I", Cond.instanceMethod yX0_ownMargin, Cond.selects RX0 yX0_ownMargin yX0_ownMargin, Cond.code yX0_ownMargin cX0_ownMargin 1 (some .int), Cond.methodLink RX0 46 yX0_customerInterest, Cond.methodLink RX0 49 yX0_funding, Cond.methodLink RX0 52 yX0_optionCharge, Cond.methodLink RL 68 yX2_due, Cond.instanceMethod yX2_due, Cond.selects RX2 yX2_due yX2_due, Cond.code yX2_due cX2_due 7 (some .int), Cond.instanceMethod yX0_partAhead, Cond.selects RX0 yX0_partAhead yX0_partAhead, Cond.code yX0_partAhead cX0_partAhead 3 (some .int), Cond.methodLink RL 71 yX2_tranche, Cond.instanceMethod yX2_tranche, Cond.selects RX2 yX2_tranche yX2_tranche, Cond.code yX2_tranche cX2_tranche 2 (some .int), Cond.methodLink RL 74 yX2_balance, Cond.instanceMethod yX2_balance, Cond.selects RX2 yX2_balance yX2_balance, Cond.code yX2_balance cX2_balance 2 (some .int)]
def wsL_isSo_r5 : List Cond := [Cond.fieldLink RX2 35 "FundBook" "balances" "[I", Cond.methodLink RL 77 yX2_margin, Cond.instanceMethod yX2_margin, Cond.selects RX2 yX2_margin yX2_margin, Cond.code yX2_margin cX2_margin 3 (some .int), Cond.fieldLink RX2 47 "FundBook" "branchMargins" "[[I", Cond.methodLink RX2 177 yX2_hasEnded, Cond.instanceMethod yX2_hasEnded, Cond.selects RX2 yX2_hasEnded yX2_hasEnded, Cond.code yX2_hasEnded cX2_hasEnded 2 (some .boolean), Cond.methodLink RL 80 yX2_byProduct, Cond.instanceMethod yX2_byProduct, Cond.selects RX2 yX2_byProduct yX2_byProduct, Cond.code yX2_byProduct cX2_byProduct 3 (some .int), Cond.fieldLink RX2 50 "FundBook" "productMargins" "[[I", Cond.methodLink RL 83 yX2_treasury, Cond.instanceMethod yX2_treasury, Cond.selects RX2 yX2_treasury yX2_treasury, Cond.code yX2_treasury cX2_treasury 2 (some .int), Cond.fieldLink RX2 53 "FundBook" "treasuryMargins" "[I", Cond.methodLink RL 86 yX2_interest, Cond.instanceMethod yX2_interest, Cond.selects RX2 yX2_interest yX2_interest, Cond.code yX2_interest cX2_interest 2 (some .int)]
def wsL_isSo_r6 : List Cond := [Cond.fieldLink RX2 56 "FundBook" "bankInterests" "[I"]
def wsL_isSo : List Cond := .code yL_isSo cL_isSo 11 (some .boolean) :: ((wsL_isSo_r1 ++ (wsL_isSo_r2 ++ (wsL_isSo_r3 ++ (wsL_isSo_r4 ++ (wsL_isSo_r5 ++ wsL_isSo_r6))))) ++ wsX20 ++ wsX10 ++ wsX00 ++ (vx_atS RX2 63 "java/lang/IndexOutOfBoundsException" ["java/lang/RuntimeException", "java/lang/Exception"]).filter goodWord ++ (vx_atS RX2 70 "java/lang/IllegalArgumentException" ["java/lang/RuntimeException", "java/lang/Exception"]).filter goodWord)
def wsL_lends_r1 : List Cond := [Cond.constant RL 92 (10000000), Cond.constant RL 93 (900000), Cond.methodLink RL 89 yL_low, Cond.static yL_low, Cond.initialized RL, Cond.code yL_low cL_low 2 (some .int), Cond.constant RL 9 (2147483647), Cond.methodLink RL 94 yX2_lend, Cond.instanceMethod yX2_lend, Cond.selects RX2 yX2_lend yX2_lend, Cond.initialized RX2, Cond.code yX2_lend cX2_lend 10 (some .int), Cond.classLink RX2 59 "java/lang/IndexOutOfBoundsException", Cond.initialized "java/lang/IndexOutOfBoundsException", Cond.classLink RX2 66 "java/lang/IllegalArgumentException", Cond.initialized "java/lang/IllegalArgumentException", Cond.classLink RX2 84 "java/lang/IllegalStateException", Cond.initialized "java/lang/IllegalStateException", Cond.constant RX2 79 (10000000), Cond.fieldLink RX2 32 "FundBook" "loanCount" "I", Cond.fieldLink RX2 17 "FundBook" "optionRate" "I", Cond.fieldLink RX2 28 "FundBook" "loanRows" "[LFundBook$Loan;", Cond.classLink RX2 26 RX0, Cond.instantiable RX0 8]
def wsL_lends_r2 : List Cond := [Cond.initialized RX0, Cond.fieldLink RX2 9 "FundBook" "curve" "[I", Cond.methodLink RX2 93 ⟨"[I", "clone", "()Ljava/lang/Object;"⟩, Cond.sameMethod "[I" "java/lang/Object" "clone" "()Ljava/lang/Object;", Cond.native ⟨"java/lang/Object", "clone", "()Ljava/lang/Object;"⟩, Cond.instanceMethod ⟨"java/lang/Object", "clone", "()Ljava/lang/Object;"⟩, Cond.selects "[I" ⟨"[I", "clone", "()Ljava/lang/Object;"⟩ ⟨"java/lang/Object", "clone", "()Ljava/lang/Object;"⟩, Cond.classLink RX2 94 "[I", Cond.methodLink RX2 89 yX2_cutIntoParts, Cond.static yX2_cutIntoParts, Cond.code yX2_cutIntoParts cX2_cutIntoParts 5 (some (.array .int)), Cond.arrayClass .int, Cond.instanceMethod yX0_init, Cond.code yX0_init cX0_init 8 none, Cond.methodLink RX0 3 objectInit, Cond.instanceMethod objectInit, Cond.code objectInit ⟨#[0xb1]⟩ 1 none, Cond.fieldLink RX0 9 "FundBook$Loan" "branch" "I", Cond.fieldLink RX0 15 "FundBook$Loan" "product" "I", Cond.fieldLink RX0 18 "FundBook$Loan" "rate" "I", Cond.fieldLink RX0 21 "FundBook$Loan" "hasOption" "Z", Cond.fieldLink RX0 25 "FundBook$Loan" "optionRate" "I", Cond.fieldLink RX0 28 "FundBook$Loan" "parts" "[I", Cond.fieldLink RX0 32 "FundBook$Loan" "fundingRates" "[I"]
def wsL_lends_r3 : List Cond := [Cond.fieldLink RX0 35 "FundBook$Loan" "paidParts" "I"]
def wsL_lends : List Cond := .code yL_lends cL_lends 9 (some .boolean) :: ((wsL_lends_r1 ++ (wsL_lends_r2 ++ wsL_lends_r3)) ++ wsX20 ++ wsX00 ++ (vx_atS RX2 63 "java/lang/IndexOutOfBoundsException" ["java/lang/RuntimeException", "java/lang/Exception"]).filter goodWord ++ (vx_atS RX2 70 "java/lang/IllegalArgumentException" ["java/lang/RuntimeException", "java/lang/Exception"]).filter goodWord ++ (vx_atS RX2 88 "java/lang/IllegalStateException" ["java/lang/RuntimeException", "java/lang/Exception"]).filter goodWord)
def wsL_deposits_r1 : List Cond := [Cond.constant RL 98 (20000001), Cond.constant RL 92 (10000000), Cond.constant RL 99 (900001), Cond.constant RL 100 (200000), Cond.methodLink RL 89 yL_low, Cond.static yL_low, Cond.initialized RL, Cond.code yL_low cL_low 2 (some .int), Cond.constant RL 9 (2147483647), Cond.methodLink RL 51 yL_lay, Cond.static yL_lay, Cond.code yL_lay cL_lay 5 none, Cond.constantLong RL 38 (100), Cond.methodLink RL 101 yL_calls, Cond.static yL_calls, Cond.codeWith yL_calls cL_calls 5 (some .int) [(0, 30, 31, 24)], Cond.classLink RL 24 "java/lang/IllegalStateException", Cond.methodLink RL 10 yX2_repay, Cond.instanceMethod yX2_repay, Cond.selects RX2 yX2_repay yX2_repay, Cond.initialized RX2, Cond.code yX2_repay cX2_repay 4 (some .int), Cond.classLink RX2 59 "java/lang/IndexOutOfBoundsException", Cond.initialized "java/lang/IndexOutOfBoundsException"]
def wsL_deposits_r2 : List Cond := [Cond.classLink RX2 84 "java/lang/IllegalStateException", Cond.initialized "java/lang/IllegalStateException", Cond.methodLink RX2 101 yX2_findLoan, Cond.instanceMethod yX2_findLoan, Cond.selects RX2 yX2_findLoan yX2_findLoan, Cond.code yX2_findLoan cX2_findLoan 2 (some (.object "FundBook$Loan")), Cond.fieldLink RX2 28 "FundBook" "loanRows" "[LFundBook$Loan;", Cond.instanceMethod yX0_unpaid, Cond.initialized RX0, Cond.selects RX0 yX0_unpaid yX0_unpaid, Cond.code yX0_unpaid cX0_unpaid 3 (some .int), Cond.fieldLink RX0 35 "FundBook$Loan" "paidParts" "I", Cond.fieldLink RX0 28 "FundBook$Loan" "parts" "[I", Cond.instanceMethod yX0_settle, Cond.selects RX0 yX0_settle yX0_settle, Cond.code yX0_settle cX0_settle 1 none, Cond.methodLink RL 16 yX2_deposit, Cond.instanceMethod yX2_deposit, Cond.selects RX2 yX2_deposit yX2_deposit, Cond.code yX2_deposit cX2_deposit 4 (some .int), Cond.classLink RX2 66 "java/lang/IllegalArgumentException", Cond.initialized "java/lang/IllegalArgumentException", Cond.constant RX2 122 (-10000000), Cond.constant RX2 79 (10000000)]
def wsL_deposits_r3 : List Cond := [Cond.fieldLink RX2 35 "FundBook" "balances" "[I", Cond.fieldLink RX2 23 "FundBook" "now" "I", Cond.fieldLink RX2 41 "FundBook" "replica" "LFundBook$Replica;", Cond.fieldLink RX2 9 "FundBook" "curve" "[I", Cond.methodLink RX2 127 yX2_trancheAmount, Cond.instanceMethod yX2_trancheAmount, Cond.selects RX2 yX2_trancheAmount yX2_trancheAmount, Cond.code yX2_trancheAmount cX2_trancheAmount 7 (some .int), Cond.methodLink RX2 191 yX2_coreOf, Cond.instanceMethod yX2_coreOf, Cond.selects RX2 yX2_coreOf yX2_coreOf, Cond.code yX2_coreOf cX2_coreOf 3 (some .int), Cond.fieldLink RX2 20 "FundBook" "coreShare" "I", Cond.constantLong RX2 189 (100), Cond.instanceMethod yX1_layAll, Cond.initialized RX1, Cond.selects RX1 yX1_layAll yX1_layAll, Cond.code yX1_layAll cX1_layAll 4 none, Cond.methodLink RX1 18 yX1_lay, Cond.instanceMethod yX1_lay, Cond.selects RX1 yX1_lay yX1_lay, Cond.code yX1_lay cX1_lay 4 none, Cond.fieldLink RX1 9 "FundBook$Replica" "amounts" "[I", Cond.fieldLink RX1 15 "FundBook$Replica" "rates" "[I"]
def wsL_deposits_r4 : List Cond := [Cond.methodLink RL 20 yX2_closeMonth, Cond.instanceMethod yX2_closeMonth, Cond.selects RX2 yX2_closeMonth yX2_closeMonth, Cond.code yX2_closeMonth cX2_closeMonth 1 (some .int), Cond.methodLink RX2 136 yX2_reckonLoans, Cond.instanceMethod yX2_reckonLoans, Cond.selects RX2 yX2_reckonLoans yX2_reckonLoans, Cond.code yX2_reckonLoans cX2_reckonLoans 7 none, Cond.fieldLink RX2 47 "FundBook" "branchMargins" "[[I", Cond.fieldLink RX2 50 "FundBook" "productMargins" "[[I", Cond.fieldLink RX2 53 "FundBook" "treasuryMargins" "[I", Cond.fieldLink RX2 56 "FundBook" "bankInterests" "[I", Cond.methodLink RX2 195 yX2_loanMarginsOfBranch, Cond.instanceMethod yX2_loanMarginsOfBranch, Cond.selects RX2 yX2_loanMarginsOfBranch yX2_loanMarginsOfBranch, Cond.code yX2_loanMarginsOfBranch cX2_loanMarginsOfBranch 7 (some .int), Cond.instanceMethod yX0_ownMargin, Cond.selects RX0 yX0_ownMargin yX0_ownMargin, Cond.code yX0_ownMargin cX0_ownMargin 1 (some .int), Cond.methodLink RX0 46 yX0_customerInterest, Cond.instanceMethod yX0_customerInterest, Cond.selects RX0 yX0_customerInterest yX0_customerInterest, Cond.code yX0_customerInterest cX0_customerInterest 1 (some .int), Cond.fieldLink RX0 18 "FundBook$Loan" "rate" "I"]
def wsL_deposits_r5 : List Cond := [Cond.methodLink RX0 38 yX0_unpaid, Cond.static yX2_forOneMonth, Cond.code yX2_forOneMonth cX2_forOneMonth 2 (some .int), Cond.constantLong RX2 187 (120000), Cond.methodLink RX0 49 yX0_funding, Cond.instanceMethod yX0_funding, Cond.selects RX0 yX0_funding yX0_funding, Cond.code yX0_funding cX0_funding 4 (some .int), Cond.fieldLink RX0 32 "FundBook$Loan" "fundingRates" "[I", Cond.methodLink RX0 52 yX0_optionCharge, Cond.instanceMethod yX0_optionCharge, Cond.selects RX0 yX0_optionCharge yX0_optionCharge, Cond.code yX0_optionCharge cX0_optionCharge 1 (some .int), Cond.fieldLink RX0 25 "FundBook$Loan" "optionRate" "I", Cond.methodLink RX2 198 yX2_loanMarginsOfProduct, Cond.instanceMethod yX2_loanMarginsOfProduct, Cond.selects RX2 yX2_loanMarginsOfProduct yX2_loanMarginsOfProduct, Cond.code yX2_loanMarginsOfProduct cX2_loanMarginsOfProduct 7 (some .int), Cond.methodLink RX2 139 yX2_reckonDeposits, Cond.instanceMethod yX2_reckonDeposits, Cond.selects RX2 yX2_reckonDeposits yX2_reckonDeposits, Cond.code yX2_reckonDeposits cX2_reckonDeposits 5 none, Cond.fieldLink RX2 13 "FundBook" "depositRate" "I", Cond.instanceMethod yX1_averageRate]
def wsL_deposits_r6 : List Cond := [Cond.selects RX1 yX1_averageRate yX1_averageRate, Cond.code yX1_averageRate cX1_averageRate 6 (some .int), Cond.methodLink RX2 207 yX2_paidForDeposits, Cond.instanceMethod yX2_paidForDeposits, Cond.selects RX2 yX2_paidForDeposits yX2_paidForDeposits, Cond.code yX2_paidForDeposits cX2_paidForDeposits 5 (some .int), Cond.methodLink RX2 211 yX2_forOneMonth, Cond.methodLink RX2 142 yX2_payParts, Cond.instanceMethod yX2_payParts, Cond.selects RX2 yX2_payParts yX2_payParts, Cond.code yX2_payParts cX2_payParts 5 none, Cond.instanceMethod yX0_payPart, Cond.selects RX0 yX0_payPart yX0_payPart, Cond.code yX0_payPart cX0_payPart 1 none]
def wsL_deposits : List Cond := .code yL_deposits cL_deposits 8 (some .boolean) :: ((wsL_deposits_r1 ++ (wsL_deposits_r2 ++ (wsL_deposits_r3 ++ (wsL_deposits_r4 ++ (wsL_deposits_r5 ++ wsL_deposits_r6))))) ++ wsX00 ++ wsX20 ++ wsX10 ++ (vx_atS RX2 63 "java/lang/IndexOutOfBoundsException" ["java/lang/RuntimeException", "java/lang/Exception"]).filter goodWord ++ (vx_atS RX2 88 "java/lang/IllegalStateException" ["java/lang/RuntimeException", "java/lang/Exception"]).filter goodWord ++ (vx_atS RX2 70 "java/lang/IllegalArgumentException" ["java/lang/RuntimeException", "java/lang/Exception"]).filter goodWord)
def wsL_sets : List Cond := .code yL_sets cL_sets 5 (some .boolean) :: ([.methodLink RL 89 yL_low, .static yL_low, .initialized RL, .code yL_low cL_low 2 (some .int), .constant RL 9 (2147483647), .methodLink RL 105 yX2_setRates, .instanceMethod yX2_setRates, .selects RX2 yX2_setRates yX2_setRates, .initialized RX2, .code yX2_setRates cX2_setRates 4 none, .classLink RX2 66 "java/lang/IllegalArgumentException", .initialized "java/lang/IllegalArgumentException", .fieldLink RX2 13 "FundBook" "depositRate" "I", .fieldLink RX2 17 "FundBook" "optionRate" "I", .fieldLink RX2 20 "FundBook" "coreShare" "I", .methodLink RL 109 yX2_setCurve, .instanceMethod yX2_setCurve, .selects RX2 yX2_setCurve yX2_setCurve, .code yX2_setCurve cX2_setCurve 4 (some .int), .classLink RX2 59 "java/lang/IndexOutOfBoundsException", .initialized "java/lang/IndexOutOfBoundsException", .fieldLink RX2 9 "FundBook" "curve" "[I"] ++ wsX20 ++ (vx_atS RX2 70 "java/lang/IllegalArgumentException" ["java/lang/RuntimeException", "java/lang/Exception"]).filter goodWord ++ (vx_atS RX2 63 "java/lang/IndexOutOfBoundsException" ["java/lang/RuntimeException", "java/lang/Exception"]).filter goodWord)
def wsL_law0_r1 : List Cond := [Cond.classLink RL 11 RX2, Cond.instantiable RX2 13, Cond.initialized RX2, Cond.arrayClass .int, Cond.methodLink RL 112 yX2_init, Cond.instanceMethod yX2_init, Cond.code yX2_init cX2_init 1 none, Cond.methodLink RX2 1 objectInit, Cond.instanceMethod objectInit, Cond.code objectInit ⟨#[0xb1]⟩ 1 none, Cond.fieldLink RX2 9 "FundBook" "curve" "[I", Cond.fieldLink RX2 13 "FundBook" "depositRate" "I", Cond.fieldLink RX2 17 "FundBook" "optionRate" "I", Cond.fieldLink RX2 20 "FundBook" "coreShare" "I", Cond.fieldLink RX2 23 "FundBook" "now" "I", Cond.classLink RX2 26 RX0, Cond.fieldLink RX2 28 "FundBook" "loanRows" "[LFundBook$Loan;", Cond.fieldLink RX2 32 "FundBook" "loanCount" "I", Cond.fieldLink RX2 35 "FundBook" "balances" "[I", Cond.classLink RX2 38 RX1, Cond.instantiable RX1 2, Cond.initialized RX1, Cond.fieldLink RX2 41 "FundBook" "replica" "LFundBook$Replica;", Cond.classLink RX2 45 "[[I"]
def wsL_law0_r2 : List Cond := [Cond.fieldLink RX2 47 "FundBook" "branchMargins" "[[I", Cond.fieldLink RX2 50 "FundBook" "productMargins" "[[I", Cond.fieldLink RX2 53 "FundBook" "treasuryMargins" "[I", Cond.fieldLink RX2 56 "FundBook" "bankInterests" "[I", Cond.instanceMethod yX1_init, Cond.code yX1_init cX1_init 1 none, Cond.methodLink RX1 3 objectInit, Cond.fieldLink RX1 9 "FundBook$Replica" "amounts" "[I", Cond.fieldLink RX1 15 "FundBook$Replica" "rates" "[I", Cond.methodLink RL 113 yL_cell, Cond.static yL_cell, Cond.initialized RL, Cond.code yL_cell cL_cell 2 (some .int), Cond.constant RL 7 (52859), Cond.constant RL 8 (2048981), Cond.methodLink RL 89 yL_low, Cond.static yL_low, Cond.code yL_low cL_low 2 (some .int), Cond.constant RL 9 (2147483647), Cond.methodLink RL 117 yL_lends, Cond.static yL_lends, Cond.code yL_lends cL_lends 9 (some .boolean), Cond.constant RL 92 (10000000), Cond.constant RL 93 (900000)]
def wsL_law0_r3 : List Cond := [Cond.methodLink RL 94 yX2_lend, Cond.instanceMethod yX2_lend, Cond.selects RX2 yX2_lend yX2_lend, Cond.code yX2_lend cX2_lend 10 (some .int), Cond.classLink RX2 59 "java/lang/IndexOutOfBoundsException", Cond.initialized "java/lang/IndexOutOfBoundsException", Cond.classLink RX2 66 "java/lang/IllegalArgumentException", Cond.initialized "java/lang/IllegalArgumentException", Cond.classLink RX2 84 "java/lang/IllegalStateException", Cond.initialized "java/lang/IllegalStateException", Cond.constant RX2 79 (10000000), Cond.instantiable RX0 8, Cond.initialized RX0, Cond.methodLink RX2 93 ⟨"[I", "clone", "()Ljava/lang/Object;"⟩, Cond.sameMethod "[I" "java/lang/Object" "clone" "()Ljava/lang/Object;", Cond.native ⟨"java/lang/Object", "clone", "()Ljava/lang/Object;"⟩, Cond.instanceMethod ⟨"java/lang/Object", "clone", "()Ljava/lang/Object;"⟩, Cond.selects "[I" ⟨"[I", "clone", "()Ljava/lang/Object;"⟩ ⟨"java/lang/Object", "clone", "()Ljava/lang/Object;"⟩, Cond.classLink RX2 94 "[I", Cond.methodLink RX2 89 yX2_cutIntoParts, Cond.static yX2_cutIntoParts, Cond.code yX2_cutIntoParts cX2_cutIntoParts 5 (some (.array .int)), Cond.instanceMethod yX0_init, Cond.code yX0_init cX0_init 8 none]
def wsL_law0_r4 : List Cond := [Cond.methodLink RX0 3 objectInit, Cond.fieldLink RX0 9 "FundBook$Loan" "branch" "I", Cond.fieldLink RX0 15 "FundBook$Loan" "product" "I", Cond.fieldLink RX0 18 "FundBook$Loan" "rate" "I", Cond.fieldLink RX0 21 "FundBook$Loan" "hasOption" "Z", Cond.fieldLink RX0 25 "FundBook$Loan" "optionRate" "I", Cond.fieldLink RX0 28 "FundBook$Loan" "parts" "[I", Cond.fieldLink RX0 32 "FundBook$Loan" "fundingRates" "[I", Cond.fieldLink RX0 35 "FundBook$Loan" "paidParts" "I", Cond.methodLink RL 121 yL_sets, Cond.static yL_sets, Cond.code yL_sets cL_sets 5 (some .boolean), Cond.methodLink RL 105 yX2_setRates, Cond.instanceMethod yX2_setRates, Cond.selects RX2 yX2_setRates yX2_setRates, Cond.code yX2_setRates cX2_setRates 4 none, Cond.methodLink RL 109 yX2_setCurve, Cond.instanceMethod yX2_setCurve, Cond.selects RX2 yX2_setCurve yX2_setCurve, Cond.code yX2_setCurve cX2_setCurve 4 (some .int), Cond.methodLink RL 125 yL_deposits, Cond.static yL_deposits, Cond.code yL_deposits cL_deposits 8 (some .boolean), Cond.constant RL 98 (20000001)]
def wsL_law0_r5 : List Cond := [Cond.constant RL 99 (900001), Cond.constant RL 100 (200000), Cond.methodLink RL 51 yL_lay, Cond.static yL_lay, Cond.code yL_lay cL_lay 5 none, Cond.constantLong RL 38 (100), Cond.methodLink RL 101 yL_calls, Cond.static yL_calls, Cond.codeWith yL_calls cL_calls 5 (some .int) [(0, 30, 31, 24)], Cond.classLink RL 24 "java/lang/IllegalStateException", Cond.methodLink RL 10 yX2_repay, Cond.instanceMethod yX2_repay, Cond.selects RX2 yX2_repay yX2_repay, Cond.code yX2_repay cX2_repay 4 (some .int), Cond.methodLink RX2 101 yX2_findLoan, Cond.instanceMethod yX2_findLoan, Cond.selects RX2 yX2_findLoan yX2_findLoan, Cond.code yX2_findLoan cX2_findLoan 2 (some (.object "FundBook$Loan")), Cond.instanceMethod yX0_unpaid, Cond.selects RX0 yX0_unpaid yX0_unpaid, Cond.code yX0_unpaid cX0_unpaid 3 (some .int), Cond.instanceMethod yX0_settle, Cond.selects RX0 yX0_settle yX0_settle, Cond.code yX0_settle cX0_settle 1 none]
def wsL_law0_r6 : List Cond := [Cond.methodLink RL 16 yX2_deposit, Cond.instanceMethod yX2_deposit, Cond.selects RX2 yX2_deposit yX2_deposit, Cond.code yX2_deposit cX2_deposit 4 (some .int), Cond.constant RX2 122 (-10000000), Cond.methodLink RX2 127 yX2_trancheAmount, Cond.instanceMethod yX2_trancheAmount, Cond.selects RX2 yX2_trancheAmount yX2_trancheAmount, Cond.code yX2_trancheAmount cX2_trancheAmount 7 (some .int), Cond.methodLink RX2 191 yX2_coreOf, Cond.instanceMethod yX2_coreOf, Cond.selects RX2 yX2_coreOf yX2_coreOf, Cond.code yX2_coreOf cX2_coreOf 3 (some .int), Cond.constantLong RX2 189 (100), Cond.instanceMethod yX1_layAll, Cond.selects RX1 yX1_layAll yX1_layAll, Cond.code yX1_layAll cX1_layAll 4 none, Cond.methodLink RX1 18 yX1_lay, Cond.instanceMethod yX1_lay, Cond.selects RX1 yX1_lay yX1_lay, Cond.code yX1_lay cX1_lay 4 none, Cond.methodLink RL 20 yX2_closeMonth, Cond.instanceMethod yX2_closeMonth, Cond.selects RX2 yX2_closeMonth yX2_closeMonth]
def wsL_law0_r7 : List Cond := [Cond.code yX2_closeMonth cX2_closeMonth 1 (some .int), Cond.methodLink RX2 136 yX2_reckonLoans, Cond.instanceMethod yX2_reckonLoans, Cond.selects RX2 yX2_reckonLoans yX2_reckonLoans, Cond.code yX2_reckonLoans cX2_reckonLoans 7 none, Cond.methodLink RX2 195 yX2_loanMarginsOfBranch, Cond.instanceMethod yX2_loanMarginsOfBranch, Cond.selects RX2 yX2_loanMarginsOfBranch yX2_loanMarginsOfBranch, Cond.code yX2_loanMarginsOfBranch cX2_loanMarginsOfBranch 7 (some .int), Cond.instanceMethod yX0_ownMargin, Cond.selects RX0 yX0_ownMargin yX0_ownMargin, Cond.code yX0_ownMargin cX0_ownMargin 1 (some .int), Cond.methodLink RX0 46 yX0_customerInterest, Cond.instanceMethod yX0_customerInterest, Cond.selects RX0 yX0_customerInterest yX0_customerInterest, Cond.code yX0_customerInterest cX0_customerInterest 1 (some .int), Cond.methodLink RX0 38 yX0_unpaid, Cond.static yX2_forOneMonth, Cond.code yX2_forOneMonth cX2_forOneMonth 2 (some .int), Cond.constantLong RX2 187 (120000), Cond.methodLink RX0 49 yX0_funding, Cond.instanceMethod yX0_funding, Cond.selects RX0 yX0_funding yX0_funding, Cond.code yX0_funding cX0_funding 4 (some .int)]
def wsL_law0_r8 : List Cond := [Cond.methodLink RX0 52 yX0_optionCharge, Cond.instanceMethod yX0_optionCharge, Cond.selects RX0 yX0_optionCharge yX0_optionCharge, Cond.code yX0_optionCharge cX0_optionCharge 1 (some .int), Cond.methodLink RX2 198 yX2_loanMarginsOfProduct, Cond.instanceMethod yX2_loanMarginsOfProduct, Cond.selects RX2 yX2_loanMarginsOfProduct yX2_loanMarginsOfProduct, Cond.code yX2_loanMarginsOfProduct cX2_loanMarginsOfProduct 7 (some .int), Cond.methodLink RX2 139 yX2_reckonDeposits, Cond.instanceMethod yX2_reckonDeposits, Cond.selects RX2 yX2_reckonDeposits yX2_reckonDeposits, Cond.code yX2_reckonDeposits cX2_reckonDeposits 5 none, Cond.instanceMethod yX1_averageRate, Cond.selects RX1 yX1_averageRate yX1_averageRate, Cond.code yX1_averageRate cX1_averageRate 6 (some .int), Cond.methodLink RX2 207 yX2_paidForDeposits, Cond.instanceMethod yX2_paidForDeposits, Cond.selects RX2 yX2_paidForDeposits yX2_paidForDeposits, Cond.code yX2_paidForDeposits cX2_paidForDeposits 5 (some .int), Cond.methodLink RX2 211 yX2_forOneMonth, Cond.methodLink RX2 142 yX2_payParts, Cond.instanceMethod yX2_payParts, Cond.selects RX2 yX2_payParts yX2_payParts, Cond.code yX2_payParts cX2_payParts 5 none]
def wsL_law0_r9 : List Cond := [Cond.instanceMethod yX0_payPart, Cond.selects RX0 yX0_payPart yX0_payPart, Cond.code yX0_payPart cX0_payPart 1 none, Cond.methodLink RL 32 yL_left, Cond.static yL_left, Cond.code yL_left cL_left 5 (some .int), Cond.methodLink RL 26 yL_part, Cond.static yL_part, Cond.code yL_part cL_part 8 (some .int), Cond.methodLink RL 129 yL_closes, Cond.static yL_closes, Cond.code yL_closes cL_closes 9 none, Cond.constantLong RL 36 (120000), Cond.methodLink RL 44 yL_branch, Cond.static yL_branch, Cond.code yL_branch cL_branch 7 (some .int), Cond.methodLink RL 40 yL_rate, Cond.static yL_rate, Cond.code yL_rate cL_rate 6 (some .int), Cond.methodLink RL 47 yL_bears, Cond.static yL_bears, Cond.code yL_bears cL_bears 9 (some .int), Cond.methodLink RL 133 yL_isSo, Cond.static yL_isSo]
def wsL_law0_r10 : List Cond := [Cond.code yL_isSo cL_isSo 11 (some .boolean), Cond.methodLink RL 55 yX2_month, Cond.instanceMethod yX2_month, Cond.selects RX2 yX2_month yX2_month, Cond.code yX2_month cX2_month 1 (some .int), Cond.methodLink RL 58 yX2_loans, Cond.instanceMethod yX2_loans, Cond.selects RX2 yX2_loans yX2_loans, Cond.code yX2_loans cX2_loans 1 (some .int), Cond.methodLink RL 61 yX2_replicaRate, Cond.instanceMethod yX2_replicaRate, Cond.selects RX2 yX2_replicaRate yX2_replicaRate, Cond.code yX2_replicaRate cX2_replicaRate 1 (some .int), Cond.methodLink RL 64 yX2_left, Cond.instanceMethod yX2_left, Cond.selects RX2 yX2_left yX2_left, Cond.code yX2_left cX2_left 3 (some .int), Cond.methodLink RL 66 yX2_bears, Cond.instanceMethod yX2_bears, Cond.selects RX2 yX2_bears yX2_bears, Cond.code yX2_bears cX2_bears 4 (some .int), Cond.methodLink RL 68 yX2_due, Cond.instanceMethod yX2_due, Cond.selects RX2 yX2_due yX2_due]
def wsL_law0_r11 : List Cond := [Cond.code yX2_due cX2_due 7 (some .int), Cond.instanceMethod yX0_partAhead, Cond.selects RX0 yX0_partAhead yX0_partAhead, Cond.code yX0_partAhead cX0_partAhead 3 (some .int), Cond.methodLink RL 71 yX2_tranche, Cond.instanceMethod yX2_tranche, Cond.selects RX2 yX2_tranche yX2_tranche, Cond.code yX2_tranche cX2_tranche 2 (some .int), Cond.methodLink RL 74 yX2_balance, Cond.instanceMethod yX2_balance, Cond.selects RX2 yX2_balance yX2_balance, Cond.code yX2_balance cX2_balance 2 (some .int), Cond.methodLink RL 77 yX2_margin, Cond.instanceMethod yX2_margin, Cond.selects RX2 yX2_margin yX2_margin, Cond.code yX2_margin cX2_margin 3 (some .int), Cond.methodLink RX2 177 yX2_hasEnded, Cond.instanceMethod yX2_hasEnded, Cond.selects RX2 yX2_hasEnded yX2_hasEnded, Cond.code yX2_hasEnded cX2_hasEnded 2 (some .boolean), Cond.methodLink RL 80 yX2_byProduct, Cond.instanceMethod yX2_byProduct, Cond.selects RX2 yX2_byProduct yX2_byProduct, Cond.code yX2_byProduct cX2_byProduct 3 (some .int)]
def wsL_law0_r12 : List Cond := [Cond.methodLink RL 83 yX2_treasury, Cond.instanceMethod yX2_treasury, Cond.selects RX2 yX2_treasury yX2_treasury, Cond.code yX2_treasury cX2_treasury 2 (some .int), Cond.methodLink RL 86 yX2_interest, Cond.instanceMethod yX2_interest, Cond.selects RX2 yX2_interest yX2_interest, Cond.code yX2_interest cX2_interest 2 (some .int)]
def wsL_law0 : List Cond := (wsL_law0_r1 ++ (wsL_law0_r2 ++ (wsL_law0_r3 ++ (wsL_law0_r4 ++ (wsL_law0_r5 ++ (wsL_law0_r6 ++ (wsL_law0_r7 ++ (wsL_law0_r8 ++ (wsL_law0_r9 ++ (wsL_law0_r10 ++ (wsL_law0_r11 ++ wsL_law0_r12))))))))))) ++ wsX20 ++ wsX10 ++ wsX00 ++ ([] : List Cond)
def wsL_law : List Cond := wsL_law0 ++ (vx_atS RX2 63 "java/lang/IndexOutOfBoundsException" ["java/lang/RuntimeException", "java/lang/Exception"]).filter goodWord ++ (vx_atS RX2 70 "java/lang/IllegalArgumentException" ["java/lang/RuntimeException", "java/lang/Exception"]).filter goodWord ++ (vx_atS RX2 88 "java/lang/IllegalStateException" ["java/lang/RuntimeException", "java/lang/Exception"]).filter goodWord
end
section
theorem mem_pl {big : List Cond} (ws : List Cond) (ps : List Nat) (hp : ws = ps.filterMap (fun i => big[i]?)) : ∀ w ∈ ws, w ∈ big := by
  intro w hw
  rw [hp] at hw
  obtain ⟨i, -, hi⟩ := List.mem_filterMap.mp hw
  exact List.mem_of_getElem? hi
set_option maxRecDepth 100000 in
theorem in_wsL_law0_r1 : ∀ w ∈ wsL_law0_r1, w ∈ lw_tbl := mem_pl _ [32, 33, 23, 56, 34, 35, 36, 37, 38, 39, 59, 60, 61, 62, 63, 40, 64, 65, 66, 42, 43, 24, 67, 57] (by rfl)
set_option maxRecDepth 100000 in
theorem in_wsL_law0_r2 : ∀ w ∈ wsL_law0_r2, w ∈ lw_tbl := mem_pl _ [68, 69, 70, 71, 45, 46, 47, 48, 50, 99, 100, 22, 101, 102, 103, 104, 105, 106, 107, 405, 406, 407, 408, 409] (by rfl)
set_option maxRecDepth 100000 in
theorem in_wsL_law0_r3 : ∀ w ∈ wsL_law0_r3, w ∈ lw_tbl := mem_pl _ [410, 411, 412, 413, 120, 28, 220, 29, 193, 30, 219, 191, 31, 422, 423, 424, 425, 426, 428, 419, 420, 421, 430, 431] (by rfl)
set_option maxRecDepth 100000 in
theorem in_wsL_law0_r4 : ∀ w ∈ wsL_law0_r4, w ∈ lw_tbl := mem_pl _ [432, 433, 435, 437, 438, 440, 441, 442, 443, 467, 468, 469, 470, 471, 472, 473, 477, 478, 479, 480, 461, 462, 463, 464] (by rfl)
set_option maxRecDepth 100000 in
theorem in_wsL_law0_r5 : ∀ w ∈ wsL_law0_r5, w ∈ lw_tbl := mem_pl _ [465, 466, 337, 338, 339, 329, 108, 109, 110, 111, 112, 113, 114, 115, 116, 118, 0, 119, 190, 2, 192, 211, 3, 212] (by rfl)
set_option maxRecDepth 100000 in
theorem in_wsL_law0_r6 : ∀ w ∈ wsL_law0_r6, w ∈ lw_tbl := mem_pl _ [213, 214, 215, 216, 218, 237, 239, 4, 240, 241, 243, 5, 244, 245, 248, 6, 249, 250, 252, 7, 253, 254, 255, 256] (by rfl)
set_option maxRecDepth 100000 in
theorem in_wsL_law0_r7 : ∀ w ∈ wsL_law0_r7, w ∈ lw_tbl := mem_pl _ [257, 259, 261, 8, 262, 263, 265, 9, 266, 269, 10, 270, 271, 273, 11, 274, 275, 277, 278, 279, 280, 282, 12, 283] (by rfl)
set_option maxRecDepth 100000 in
theorem in_wsL_law0_r8 : ∀ w ∈ wsL_law0_r8, w ∈ lw_tbl := mem_pl _ [284, 286, 13, 287, 288, 290, 14, 291, 295, 297, 15, 298, 301, 16, 302, 303, 305, 17, 306, 307, 308, 310, 18, 311] (by rfl)
set_option maxRecDepth 100000 in
theorem in_wsL_law0_r9 : ∀ w ∈ wsL_law0_r9, w ∈ lw_tbl := mem_pl _ [314, 19, 315, 317, 318, 319, 320, 321, 322, 323, 324, 325, 333, 326, 327, 328, 330, 331, 332, 334, 335, 336, 340, 341] (by rfl)
set_option maxRecDepth 100000 in
theorem in_wsL_law0_r10 : ∀ w ∈ wsL_law0_r10, w ∈ lw_tbl := mem_pl _ [342, 343, 344, 345, 346, 347, 348, 349, 350, 351, 352, 353, 354, 355, 356, 357, 358, 359, 360, 361, 362, 364, 365, 366] (by rfl)
set_option maxRecDepth 100000 in
theorem in_wsL_law0_r11 : ∀ w ∈ wsL_law0_r11, w ∈ lw_tbl := mem_pl _ [367, 371, 20, 372, 373, 374, 375, 376, 378, 379, 380, 381, 382, 383, 384, 385, 386, 388, 21, 389, 391, 392, 393, 394] (by rfl)
set_option maxRecDepth 100000 in
theorem in_wsL_law0_r12 : ∀ w ∈ wsL_law0_r12, w ∈ lw_tbl := mem_pl _ [396, 397, 398, 399, 401, 402, 403, 404] (by rfl)
set_option maxRecDepth 100000 in
theorem in_X20 : ∀ w ∈ wsX20, w ∈ lw_tbl := by decide +kernel
set_option maxRecDepth 100000 in
theorem in_X10 : ∀ w ∈ wsX10, w ∈ lw_tbl := by decide +kernel
set_option maxRecDepth 100000 in
theorem in_X00 : ∀ w ∈ wsX00, w ∈ lw_tbl := by decide +kernel
theorem wsL_law_in0 : ∀ w ∈ wsL_law0, w ∈ lw_tbl := fun w h => (List.mem_append.mp h).elim (fun h => (List.mem_append.mp h).elim (fun h => (List.mem_append.mp h).elim (fun h => (List.mem_append.mp h).elim (fun h => (List.mem_append.mp h).elim (fun h => in_wsL_law0_r1 w h) (fun h => (List.mem_append.mp h).elim (fun h => in_wsL_law0_r2 w h) (fun h => (List.mem_append.mp h).elim (fun h => in_wsL_law0_r3 w h) (fun h => (List.mem_append.mp h).elim (fun h => in_wsL_law0_r4 w h) (fun h => (List.mem_append.mp h).elim (fun h => in_wsL_law0_r5 w h) (fun h => (List.mem_append.mp h).elim (fun h => in_wsL_law0_r6 w h) (fun h => (List.mem_append.mp h).elim (fun h => in_wsL_law0_r7 w h) (fun h => (List.mem_append.mp h).elim (fun h => in_wsL_law0_r8 w h) (fun h => (List.mem_append.mp h).elim (fun h => in_wsL_law0_r9 w h) (fun h => (List.mem_append.mp h).elim (fun h => in_wsL_law0_r10 w h) (fun h => (List.mem_append.mp h).elim (fun h => in_wsL_law0_r11 w h) (fun h => in_wsL_law0_r12 w h)))))))))))) (fun h => in_X20 w h)) (fun h => in_X10 w h)) (fun h => in_X00 w h)) (fun h => absurd h List.not_mem_nil)
theorem wsL_law_x0 : ∀ w ∈ (vx_atS RX2 63 "java/lang/IndexOutOfBoundsException" ["java/lang/RuntimeException", "java/lang/Exception"]).filter goodWord, w ∈ lw_tbl := by decide +kernel
theorem wsL_law_x1 : ∀ w ∈ (vx_atS RX2 70 "java/lang/IllegalArgumentException" ["java/lang/RuntimeException", "java/lang/Exception"]).filter goodWord, w ∈ lw_tbl := by decide +kernel
theorem wsL_law_x2 : ∀ w ∈ (vx_atS RX2 88 "java/lang/IllegalStateException" ["java/lang/RuntimeException", "java/lang/Exception"]).filter goodWord, w ∈ lw_tbl := by decide +kernel
theorem wsL_law_in : ∀ w ∈ wsL_law, w ∈ lw_tbl := fun w h => (List.mem_append.mp h).elim (fun h => (List.mem_append.mp h).elim (fun h => (List.mem_append.mp h).elim (fun h => wsL_law_in0 w h) (fun h => wsL_law_x0 w h)) (fun h => wsL_law_x1 w h)) (fun h => wsL_law_x2 w h)
theorem inlX0 : ∀ w ∈ wsX00, w ∈ wsL_law := fun _ h => List.mem_append_left _ (List.mem_append_left _ (List.mem_append_left _ (List.mem_append_left _ (List.mem_append_right _ h))))
theorem inX0 : ∀ w ∈ wsX00, w ∈ lw_tbl := fun w h => wsL_law_in w (inlX0 w h)
theorem inlX1 : ∀ w ∈ wsX10, w ∈ wsL_law := fun _ h => List.mem_append_left _ (List.mem_append_left _ (List.mem_append_left _ (List.mem_append_left _ (List.mem_append_left _ (List.mem_append_right _ h)))))
theorem inX1 : ∀ w ∈ wsX10, w ∈ lw_tbl := fun w h => wsL_law_in w (inlX1 w h)
theorem inlX2 : ∀ w ∈ wsX20, w ∈ wsL_law := fun _ h => List.mem_append_left _ (List.mem_append_left _ (List.mem_append_left _ (List.mem_append_left _ (List.mem_append_left _ (List.mem_append_left _ (List.mem_append_right _ h))))))
theorem inX2 : ∀ w ∈ wsX20, w ∈ lw_tbl := fun w h => wsL_law_in w (inlX2 w h)
theorem inX3 : ∀ w ∈ wsX30, w ∈ lw_tbl := by decide +kernel
theorem inJx8e188 : ∀ w ∈ wsJx8e1880, w ∈ lw_tbl := by decide +kernel
theorem inJ0 : ∀ w ∈ wsJ00, w ∈ lw_tbl := by decide +kernel
end
section
theorem dX0_init_0 : decode cX0_init 0 = .ok (.aload_n 0, 1) := by decide +kernel
theorem dX0_init_1 : decode cX0_init 1 = .ok (.invokespecial 3, 3) := by decide +kernel
theorem dX0_init_4 : decode cX0_init 4 = .ok (.aload_n 0, 1) := by decide +kernel
theorem dX0_init_5 : decode cX0_init 5 = .ok (.iload_n 1, 1) := by decide +kernel
theorem dX0_init_6 : decode cX0_init 6 = .ok (.putfield 9, 3) := by decide +kernel
theorem dX0_init_9 : decode cX0_init 9 = .ok (.aload_n 0, 1) := by decide +kernel
theorem dX0_init_10 : decode cX0_init 10 = .ok (.iload_n 2, 1) := by decide +kernel
theorem dX0_init_11 : decode cX0_init 11 = .ok (.putfield 15, 3) := by decide +kernel
theorem dX0_init_14 : decode cX0_init 14 = .ok (.aload_n 0, 1) := by decide +kernel
theorem dX0_init_15 : decode cX0_init 15 = .ok (.iload_n 3, 1) := by decide +kernel
theorem dX0_init_16 : decode cX0_init 16 = .ok (.putfield 18, 3) := by decide +kernel
theorem dX0_init_19 : decode cX0_init 19 = .ok (.aload_n 0, 1) := by decide +kernel
theorem dX0_init_20 : decode cX0_init 20 = .ok (.iload 4, 2) := by decide +kernel
theorem dX0_init_22 : decode cX0_init 22 = .ok (.putfield 21, 3) := by decide +kernel
theorem dX0_init_25 : decode cX0_init 25 = .ok (.aload_n 0, 1) := by decide +kernel
theorem dX0_init_26 : decode cX0_init 26 = .ok (.iload 5, 2) := by decide +kernel
theorem dX0_init_28 : decode cX0_init 28 = .ok (.putfield 25, 3) := by decide +kernel
theorem dX0_init_31 : decode cX0_init 31 = .ok (.aload_n 0, 1) := by decide +kernel
theorem dX0_init_32 : decode cX0_init 32 = .ok (.aload 6, 2) := by decide +kernel
theorem dX0_init_34 : decode cX0_init 34 = .ok (.putfield 28, 3) := by decide +kernel
theorem dX0_init_37 : decode cX0_init 37 = .ok (.aload_n 0, 1) := by decide +kernel
theorem dX0_init_38 : decode cX0_init 38 = .ok (.aload 7, 2) := by decide +kernel
theorem dX0_init_40 : decode cX0_init 40 = .ok (.putfield 32, 3) := by decide +kernel
theorem dX0_init_43 : decode cX0_init 43 = .ok (.aload_n 0, 1) := by decide +kernel
theorem dX0_init_44 : decode cX0_init 44 = .ok (.iconst 0, 1) := by decide +kernel
theorem dX0_init_45 : decode cX0_init 45 = .ok (.putfield 35, 3) := by decide +kernel
theorem dX0_init_48 : decode cX0_init 48 = .ok (.return_, 1) := by decide +kernel
theorem dX0_unpaid_0 : decode cX0_unpaid 0 = .ok (.iconst 0, 1) := by decide +kernel
theorem dX0_unpaid_1 : decode cX0_unpaid 1 = .ok (.istore_n 1, 1) := by decide +kernel
theorem dX0_unpaid_2 : decode cX0_unpaid 2 = .ok (.aload_n 0, 1) := by decide +kernel
theorem dX0_unpaid_3 : decode cX0_unpaid 3 = .ok (.getfield 35, 3) := by decide +kernel
theorem dX0_unpaid_6 : decode cX0_unpaid 6 = .ok (.istore_n 2, 1) := by decide +kernel
theorem dX0_unpaid_7 : decode cX0_unpaid 7 = .ok (.iload_n 2, 1) := by decide +kernel
theorem dX0_unpaid_8 : decode cX0_unpaid 8 = .ok (.bipush 6, 2) := by decide +kernel
theorem dX0_unpaid_10 : decode cX0_unpaid 10 = .ok (.if_icmp .ge 18, 3) := by decide +kernel
theorem dX0_unpaid_13 : decode cX0_unpaid 13 = .ok (.iload_n 1, 1) := by decide +kernel
theorem dX0_unpaid_14 : decode cX0_unpaid 14 = .ok (.aload_n 0, 1) := by decide +kernel
theorem dX0_unpaid_15 : decode cX0_unpaid 15 = .ok (.getfield 28, 3) := by decide +kernel
theorem dX0_unpaid_18 : decode cX0_unpaid 18 = .ok (.iload_n 2, 1) := by decide +kernel
theorem dX0_unpaid_19 : decode cX0_unpaid 19 = .ok (.iaload, 1) := by decide +kernel
theorem dX0_unpaid_20 : decode cX0_unpaid 20 = .ok (.iadd, 1) := by decide +kernel
theorem dX0_unpaid_21 : decode cX0_unpaid 21 = .ok (.istore_n 1, 1) := by decide +kernel
theorem dX0_unpaid_22 : decode cX0_unpaid 22 = .ok (.iinc 2 1, 3) := by decide +kernel
theorem dX0_unpaid_25 : decode cX0_unpaid 25 = .ok (.goto (-18), 3) := by decide +kernel
theorem dX0_unpaid_28 : decode cX0_unpaid 28 = .ok (.iload_n 1, 1) := by decide +kernel
theorem dX0_unpaid_29 : decode cX0_unpaid 29 = .ok (.ireturn, 1) := by decide +kernel
theorem dX0_partAhead_0 : decode cX0_partAhead 0 = .ok (.aload_n 0, 1) := by decide +kernel
theorem dX0_partAhead_1 : decode cX0_partAhead 1 = .ok (.getfield 35, 3) := by decide +kernel
theorem dX0_partAhead_4 : decode cX0_partAhead 4 = .ok (.iload_n 1, 1) := by decide +kernel
theorem dX0_partAhead_5 : decode cX0_partAhead 5 = .ok (.iadd, 1) := by decide +kernel
theorem dX0_partAhead_6 : decode cX0_partAhead 6 = .ok (.istore_n 2, 1) := by decide +kernel
theorem dX0_partAhead_7 : decode cX0_partAhead 7 = .ok (.iload_n 2, 1) := by decide +kernel
theorem dX0_partAhead_8 : decode cX0_partAhead 8 = .ok (.bipush 6, 2) := by decide +kernel
theorem dX0_partAhead_10 : decode cX0_partAhead 10 = .ok (.if_icmp .ge 12, 3) := by decide +kernel
theorem dX0_partAhead_13 : decode cX0_partAhead 13 = .ok (.aload_n 0, 1) := by decide +kernel
theorem dX0_partAhead_14 : decode cX0_partAhead 14 = .ok (.getfield 28, 3) := by decide +kernel
theorem dX0_partAhead_17 : decode cX0_partAhead 17 = .ok (.iload_n 2, 1) := by decide +kernel
theorem dX0_partAhead_18 : decode cX0_partAhead 18 = .ok (.iaload, 1) := by decide +kernel
theorem dX0_partAhead_19 : decode cX0_partAhead 19 = .ok (.goto 4, 3) := by decide +kernel
theorem dX0_partAhead_22 : decode cX0_partAhead 22 = .ok (.iconst 0, 1) := by decide +kernel
theorem dX0_partAhead_23 : decode cX0_partAhead 23 = .ok (.ireturn, 1) := by decide +kernel
set_option maxRecDepth 20000 in
theorem ggX0_customerInterest_X0_unpaid : GoodIn wsX0_customerInterest wsX0_unpaid := goodIn_r _ [6, 7, 8, 13, 14, 15, 16, 17, 18, 19, 20] (by decide +kernel) (by decide +kernel)
set_option maxRecDepth 20000 in
theorem gX0_customerInterest_X0_unpaid : GoodIn wsX0_customerInterest (wsV RX0 38 RX0 yX0_unpaid wsX0_unpaid) := goodIn_app (goodIn_of _ (by decide +kernel)) ggX0_customerInterest_X0_unpaid
set_option maxRecDepth 20000 in
theorem ggX0_customerInterest_X2_forOneMonth : GoodIn wsX0_customerInterest wsX2_forOneMonth := goodIn_r _ [11, 12] (by decide +kernel) (by decide +kernel)
set_option maxRecDepth 20000 in
theorem gX0_customerInterest_X2_forOneMonth_n42 : GoodIn wsX0_customerInterest (wsX2_forOneMonth) := ggX0_customerInterest_X2_forOneMonth
theorem dX0_customerInterest_0 : decode cX0_customerInterest 0 = .ok (.aload_n 0, 1) := by decide +kernel
theorem dX0_customerInterest_1 : decode cX0_customerInterest 1 = .ok (.invokevirtual 38, 3) := by decide +kernel
theorem dX0_customerInterest_4 : decode cX0_customerInterest 4 = .ok (.i2l, 1) := by decide +kernel
theorem dX0_customerInterest_5 : decode cX0_customerInterest 5 = .ok (.aload_n 0, 1) := by decide +kernel
theorem dX0_customerInterest_6 : decode cX0_customerInterest 6 = .ok (.getfield 18, 3) := by decide +kernel
theorem dX0_customerInterest_9 : decode cX0_customerInterest 9 = .ok (.i2l, 1) := by decide +kernel
theorem dX0_customerInterest_10 : decode cX0_customerInterest 10 = .ok (.lmul, 1) := by decide +kernel
theorem dX0_customerInterest_11 : decode cX0_customerInterest 11 = .ok (.invokestatic 42, 3) := by decide +kernel
theorem dX0_customerInterest_14 : decode cX0_customerInterest 14 = .ok (.ireturn, 1) := by decide +kernel
set_option maxRecDepth 20000 in
theorem ggX0_funding_X2_forOneMonth : GoodIn wsX0_funding wsX2_forOneMonth := goodIn_r _ [6, 7] (by decide +kernel) (by decide +kernel)
set_option maxRecDepth 20000 in
theorem gX0_funding_X2_forOneMonth_n42 : GoodIn wsX0_funding (wsX2_forOneMonth) := ggX0_funding_X2_forOneMonth
theorem dX0_funding_0 : decode cX0_funding 0 = .ok (.lconst 0, 1) := by decide +kernel
theorem dX0_funding_1 : decode cX0_funding 1 = .ok (.lstore_n 1, 1) := by decide +kernel
theorem dX0_funding_2 : decode cX0_funding 2 = .ok (.aload_n 0, 1) := by decide +kernel
theorem dX0_funding_3 : decode cX0_funding 3 = .ok (.getfield 35, 3) := by decide +kernel
theorem dX0_funding_6 : decode cX0_funding 6 = .ok (.istore_n 3, 1) := by decide +kernel
theorem dX0_funding_7 : decode cX0_funding 7 = .ok (.iload_n 3, 1) := by decide +kernel
theorem dX0_funding_8 : decode cX0_funding 8 = .ok (.bipush 6, 2) := by decide +kernel
theorem dX0_funding_10 : decode cX0_funding 10 = .ok (.if_icmp .ge 27, 3) := by decide +kernel
theorem dX0_funding_13 : decode cX0_funding 13 = .ok (.lload_n 1, 1) := by decide +kernel
theorem dX0_funding_14 : decode cX0_funding 14 = .ok (.aload_n 0, 1) := by decide +kernel
theorem dX0_funding_15 : decode cX0_funding 15 = .ok (.getfield 28, 3) := by decide +kernel
theorem dX0_funding_18 : decode cX0_funding 18 = .ok (.iload_n 3, 1) := by decide +kernel
theorem dX0_funding_19 : decode cX0_funding 19 = .ok (.iaload, 1) := by decide +kernel
theorem dX0_funding_20 : decode cX0_funding 20 = .ok (.i2l, 1) := by decide +kernel
theorem dX0_funding_21 : decode cX0_funding 21 = .ok (.aload_n 0, 1) := by decide +kernel
theorem dX0_funding_22 : decode cX0_funding 22 = .ok (.getfield 32, 3) := by decide +kernel
theorem dX0_funding_25 : decode cX0_funding 25 = .ok (.iload_n 3, 1) := by decide +kernel
theorem dX0_funding_26 : decode cX0_funding 26 = .ok (.iaload, 1) := by decide +kernel
theorem dX0_funding_27 : decode cX0_funding 27 = .ok (.i2l, 1) := by decide +kernel
theorem dX0_funding_28 : decode cX0_funding 28 = .ok (.lmul, 1) := by decide +kernel
theorem dX0_funding_29 : decode cX0_funding 29 = .ok (.ladd, 1) := by decide +kernel
theorem dX0_funding_30 : decode cX0_funding 30 = .ok (.lstore_n 1, 1) := by decide +kernel
theorem dX0_funding_31 : decode cX0_funding 31 = .ok (.iinc 3 1, 3) := by decide +kernel
theorem dX0_funding_34 : decode cX0_funding 34 = .ok (.goto (-27), 3) := by decide +kernel
theorem dX0_funding_37 : decode cX0_funding 37 = .ok (.lload_n 1, 1) := by decide +kernel
theorem dX0_funding_38 : decode cX0_funding 38 = .ok (.invokestatic 42, 3) := by decide +kernel
theorem dX0_funding_41 : decode cX0_funding 41 = .ok (.ireturn, 1) := by decide +kernel
set_option maxRecDepth 20000 in
theorem ggX0_optionCharge_X0_unpaid : GoodIn wsX0_optionCharge wsX0_unpaid := goodIn_r _ [6, 7, 8, 13, 14, 15, 16, 17, 18, 19, 20] (by decide +kernel) (by decide +kernel)
set_option maxRecDepth 20000 in
theorem gX0_optionCharge_X0_unpaid : GoodIn wsX0_optionCharge (wsV RX0 38 RX0 yX0_unpaid wsX0_unpaid) := goodIn_app (goodIn_of _ (by decide +kernel)) ggX0_optionCharge_X0_unpaid
set_option maxRecDepth 20000 in
theorem ggX0_optionCharge_X2_forOneMonth : GoodIn wsX0_optionCharge wsX2_forOneMonth := goodIn_r _ [11, 12] (by decide +kernel) (by decide +kernel)
set_option maxRecDepth 20000 in
theorem gX0_optionCharge_X2_forOneMonth_n42 : GoodIn wsX0_optionCharge (wsX2_forOneMonth) := ggX0_optionCharge_X2_forOneMonth
theorem dX0_optionCharge_0 : decode cX0_optionCharge 0 = .ok (.aload_n 0, 1) := by decide +kernel
theorem dX0_optionCharge_1 : decode cX0_optionCharge 1 = .ok (.invokevirtual 38, 3) := by decide +kernel
theorem dX0_optionCharge_4 : decode cX0_optionCharge 4 = .ok (.i2l, 1) := by decide +kernel
theorem dX0_optionCharge_5 : decode cX0_optionCharge 5 = .ok (.aload_n 0, 1) := by decide +kernel
theorem dX0_optionCharge_6 : decode cX0_optionCharge 6 = .ok (.getfield 25, 3) := by decide +kernel
theorem dX0_optionCharge_9 : decode cX0_optionCharge 9 = .ok (.i2l, 1) := by decide +kernel
theorem dX0_optionCharge_10 : decode cX0_optionCharge 10 = .ok (.lmul, 1) := by decide +kernel
theorem dX0_optionCharge_11 : decode cX0_optionCharge 11 = .ok (.invokestatic 42, 3) := by decide +kernel
theorem dX0_optionCharge_14 : decode cX0_optionCharge 14 = .ok (.ireturn, 1) := by decide +kernel
set_option maxRecDepth 20000 in
theorem ggX0_ownMargin_X0_customerInterest : GoodIn wsX0_ownMargin wsX0_customerInterest := goodIn_r _ [5, 6, 7, 8, 9, 4, 10, 11, 12, 13, 14, 15, 16, 27, 28, 29, 30, 31, 32, 33, 34] (by decide +kernel) (by decide +kernel)
set_option maxRecDepth 20000 in
theorem gX0_ownMargin_X0_customerInterest : GoodIn wsX0_ownMargin (wsV RX0 46 RX0 yX0_customerInterest wsX0_customerInterest) := goodIn_app (goodIn_of _ (by decide +kernel)) ggX0_ownMargin_X0_customerInterest
set_option maxRecDepth 20000 in
theorem ggX0_ownMargin_X0_funding : GoodIn wsX0_ownMargin wsX0_funding := goodIn_r _ [20, 11, 12, 21, 13, 14, 15, 16, 27, 28, 29, 30, 31, 32, 33, 34] (by decide +kernel) (by decide +kernel)
set_option maxRecDepth 20000 in
theorem gX0_ownMargin_X0_funding : GoodIn wsX0_ownMargin (wsV RX0 49 RX0 yX0_funding wsX0_funding) := goodIn_app (goodIn_of _ (by decide +kernel)) ggX0_ownMargin_X0_funding
set_option maxRecDepth 20000 in
theorem ggX0_ownMargin_X0_optionCharge : GoodIn wsX0_ownMargin wsX0_optionCharge := goodIn_r _ [25, 26, 7, 8, 9, 4, 10, 11, 12, 13, 14, 15, 16, 27, 28, 29, 30, 31, 32, 33, 34] (by decide +kernel) (by decide +kernel)
set_option maxRecDepth 20000 in
theorem gX0_ownMargin_X0_optionCharge : GoodIn wsX0_ownMargin (wsV RX0 52 RX0 yX0_optionCharge wsX0_optionCharge) := goodIn_app (goodIn_of _ (by decide +kernel)) ggX0_ownMargin_X0_optionCharge
theorem dX0_ownMargin_0 : decode cX0_ownMargin 0 = .ok (.aload_n 0, 1) := by decide +kernel
theorem dX0_ownMargin_1 : decode cX0_ownMargin 1 = .ok (.invokevirtual 46, 3) := by decide +kernel
theorem dX0_ownMargin_4 : decode cX0_ownMargin 4 = .ok (.aload_n 0, 1) := by decide +kernel
theorem dX0_ownMargin_5 : decode cX0_ownMargin 5 = .ok (.invokevirtual 49, 3) := by decide +kernel
theorem dX0_ownMargin_8 : decode cX0_ownMargin 8 = .ok (.isub, 1) := by decide +kernel
theorem dX0_ownMargin_9 : decode cX0_ownMargin 9 = .ok (.aload_n 0, 1) := by decide +kernel
theorem dX0_ownMargin_10 : decode cX0_ownMargin 10 = .ok (.invokevirtual 52, 3) := by decide +kernel
theorem dX0_ownMargin_13 : decode cX0_ownMargin 13 = .ok (.isub, 1) := by decide +kernel
theorem dX0_ownMargin_14 : decode cX0_ownMargin 14 = .ok (.ireturn, 1) := by decide +kernel
theorem dX0_payPart_0 : decode cX0_payPart 0 = .ok (.aload_n 0, 1) := by decide +kernel
theorem dX0_payPart_1 : decode cX0_payPart 1 = .ok (.getfield 35, 3) := by decide +kernel
theorem dX0_payPart_4 : decode cX0_payPart 4 = .ok (.bipush 6, 2) := by decide +kernel
theorem dX0_payPart_6 : decode cX0_payPart 6 = .ok (.if_icmp .ge 13, 3) := by decide +kernel
theorem dX0_payPart_9 : decode cX0_payPart 9 = .ok (.aload_n 0, 1) := by decide +kernel
theorem dX0_payPart_10 : decode cX0_payPart 10 = .ok (.aload_n 0, 1) := by decide +kernel
theorem dX0_payPart_11 : decode cX0_payPart 11 = .ok (.getfield 35, 3) := by decide +kernel
theorem dX0_payPart_14 : decode cX0_payPart 14 = .ok (.iconst 1, 1) := by decide +kernel
theorem dX0_payPart_15 : decode cX0_payPart 15 = .ok (.iadd, 1) := by decide +kernel
theorem dX0_payPart_16 : decode cX0_payPart 16 = .ok (.putfield 35, 3) := by decide +kernel
theorem dX0_payPart_19 : decode cX0_payPart 19 = .ok (.return_, 1) := by decide +kernel
theorem dX0_settle_0 : decode cX0_settle 0 = .ok (.aload_n 0, 1) := by decide +kernel
theorem dX0_settle_1 : decode cX0_settle 1 = .ok (.bipush 6, 2) := by decide +kernel
theorem dX0_settle_3 : decode cX0_settle 3 = .ok (.putfield 35, 3) := by decide +kernel
theorem dX0_settle_6 : decode cX0_settle 6 = .ok (.return_, 1) := by decide +kernel
theorem dX1_init_0 : decode cX1_init 0 = .ok (.aload_n 0, 1) := by decide +kernel
theorem dX1_init_1 : decode cX1_init 1 = .ok (.invokespecial 3, 3) := by decide +kernel
theorem dX1_init_4 : decode cX1_init 4 = .ok (.aload_n 0, 1) := by decide +kernel
theorem dX1_init_5 : decode cX1_init 5 = .ok (.bipush 6, 2) := by decide +kernel
theorem dX1_init_7 : decode cX1_init 7 = .ok (.newarray .int, 2) := by decide +kernel
theorem dX1_init_9 : decode cX1_init 9 = .ok (.putfield 9, 3) := by decide +kernel
theorem dX1_init_12 : decode cX1_init 12 = .ok (.aload_n 0, 1) := by decide +kernel
theorem dX1_init_13 : decode cX1_init 13 = .ok (.bipush 6, 2) := by decide +kernel
theorem dX1_init_15 : decode cX1_init 15 = .ok (.newarray .int, 2) := by decide +kernel
theorem dX1_init_17 : decode cX1_init 17 = .ok (.putfield 15, 3) := by decide +kernel
theorem dX1_init_20 : decode cX1_init 20 = .ok (.return_, 1) := by decide +kernel
theorem dX1_lay_0 : decode cX1_lay 0 = .ok (.iload_n 1, 1) := by decide +kernel
theorem dX1_lay_1 : decode cX1_lay 1 = .ok (.ifCond .lt 23, 3) := by decide +kernel
theorem dX1_lay_4 : decode cX1_lay 4 = .ok (.iload_n 1, 1) := by decide +kernel
theorem dX1_lay_5 : decode cX1_lay 5 = .ok (.bipush 6, 2) := by decide +kernel
theorem dX1_lay_7 : decode cX1_lay 7 = .ok (.if_icmp .ge 17, 3) := by decide +kernel
theorem dX1_lay_10 : decode cX1_lay 10 = .ok (.aload_n 0, 1) := by decide +kernel
theorem dX1_lay_11 : decode cX1_lay 11 = .ok (.getfield 9, 3) := by decide +kernel
theorem dX1_lay_14 : decode cX1_lay 14 = .ok (.iload_n 1, 1) := by decide +kernel
theorem dX1_lay_15 : decode cX1_lay 15 = .ok (.iload_n 2, 1) := by decide +kernel
theorem dX1_lay_16 : decode cX1_lay 16 = .ok (.iastore, 1) := by decide +kernel
theorem dX1_lay_17 : decode cX1_lay 17 = .ok (.aload_n 0, 1) := by decide +kernel
theorem dX1_lay_18 : decode cX1_lay 18 = .ok (.getfield 15, 3) := by decide +kernel
theorem dX1_lay_21 : decode cX1_lay 21 = .ok (.iload_n 1, 1) := by decide +kernel
theorem dX1_lay_22 : decode cX1_lay 22 = .ok (.iload_n 3, 1) := by decide +kernel
theorem dX1_lay_23 : decode cX1_lay 23 = .ok (.iastore, 1) := by decide +kernel
theorem dX1_lay_24 : decode cX1_lay 24 = .ok (.return_, 1) := by decide +kernel
set_option maxRecDepth 20000 in
theorem ggX1_layAll_X1_lay : GoodIn wsX1_layAll wsX1_lay := goodIn_r _ [5, 6, 7, 8, 9] (by decide +kernel) (by decide +kernel)
set_option maxRecDepth 20000 in
theorem gX1_layAll_X1_lay : GoodIn wsX1_layAll (wsV RX1 18 RX1 yX1_lay wsX1_lay) := goodIn_app (goodIn_of _ (by decide +kernel)) ggX1_layAll_X1_lay
theorem dX1_layAll_0 : decode cX1_layAll 0 = .ok (.iconst 0, 1) := by decide +kernel
theorem dX1_layAll_1 : decode cX1_layAll 1 = .ok (.istore_n 3, 1) := by decide +kernel
theorem dX1_layAll_2 : decode cX1_layAll 2 = .ok (.iload_n 3, 1) := by decide +kernel
theorem dX1_layAll_3 : decode cX1_layAll 3 = .ok (.bipush 6, 2) := by decide +kernel
theorem dX1_layAll_5 : decode cX1_layAll 5 = .ok (.if_icmp .ge 16, 3) := by decide +kernel
theorem dX1_layAll_8 : decode cX1_layAll 8 = .ok (.aload_n 0, 1) := by decide +kernel
theorem dX1_layAll_9 : decode cX1_layAll 9 = .ok (.iload_n 3, 1) := by decide +kernel
theorem dX1_layAll_10 : decode cX1_layAll 10 = .ok (.iload_n 1, 1) := by decide +kernel
theorem dX1_layAll_11 : decode cX1_layAll 11 = .ok (.iload_n 2, 1) := by decide +kernel
theorem dX1_layAll_12 : decode cX1_layAll 12 = .ok (.invokevirtual 18, 3) := by decide +kernel
theorem dX1_layAll_15 : decode cX1_layAll 15 = .ok (.iinc 3 1, 3) := by decide +kernel
theorem dX1_layAll_18 : decode cX1_layAll 18 = .ok (.goto (-16), 3) := by decide +kernel
theorem dX1_layAll_21 : decode cX1_layAll 21 = .ok (.return_, 1) := by decide +kernel
theorem dX1_averageRate_0 : decode cX1_averageRate 0 = .ok (.lconst 0, 1) := by decide +kernel
theorem dX1_averageRate_1 : decode cX1_averageRate 1 = .ok (.lstore_n 1, 1) := by decide +kernel
theorem dX1_averageRate_2 : decode cX1_averageRate 2 = .ok (.lconst 0, 1) := by decide +kernel
theorem dX1_averageRate_3 : decode cX1_averageRate 3 = .ok (.lstore_n 3, 1) := by decide +kernel
theorem dX1_averageRate_4 : decode cX1_averageRate 4 = .ok (.iconst 0, 1) := by decide +kernel
theorem dX1_averageRate_5 : decode cX1_averageRate 5 = .ok (.istore 5, 2) := by decide +kernel
theorem dX1_averageRate_7 : decode cX1_averageRate 7 = .ok (.iload 5, 2) := by decide +kernel
theorem dX1_averageRate_9 : decode cX1_averageRate 9 = .ok (.bipush 6, 2) := by decide +kernel
theorem dX1_averageRate_11 : decode cX1_averageRate 11 = .ok (.if_icmp .ge 40, 3) := by decide +kernel
theorem dX1_averageRate_14 : decode cX1_averageRate 14 = .ok (.lload_n 1, 1) := by decide +kernel
theorem dX1_averageRate_15 : decode cX1_averageRate 15 = .ok (.aload_n 0, 1) := by decide +kernel
theorem dX1_averageRate_16 : decode cX1_averageRate 16 = .ok (.getfield 9, 3) := by decide +kernel
theorem dX1_averageRate_19 : decode cX1_averageRate 19 = .ok (.iload 5, 2) := by decide +kernel
theorem dX1_averageRate_21 : decode cX1_averageRate 21 = .ok (.iaload, 1) := by decide +kernel
theorem dX1_averageRate_22 : decode cX1_averageRate 22 = .ok (.i2l, 1) := by decide +kernel
theorem dX1_averageRate_23 : decode cX1_averageRate 23 = .ok (.ladd, 1) := by decide +kernel
theorem dX1_averageRate_24 : decode cX1_averageRate 24 = .ok (.lstore_n 1, 1) := by decide +kernel
theorem dX1_averageRate_25 : decode cX1_averageRate 25 = .ok (.lload_n 3, 1) := by decide +kernel
theorem dX1_averageRate_26 : decode cX1_averageRate 26 = .ok (.aload_n 0, 1) := by decide +kernel
theorem dX1_averageRate_27 : decode cX1_averageRate 27 = .ok (.getfield 9, 3) := by decide +kernel
theorem dX1_averageRate_30 : decode cX1_averageRate 30 = .ok (.iload 5, 2) := by decide +kernel
theorem dX1_averageRate_32 : decode cX1_averageRate 32 = .ok (.iaload, 1) := by decide +kernel
theorem dX1_averageRate_33 : decode cX1_averageRate 33 = .ok (.i2l, 1) := by decide +kernel
theorem dX1_averageRate_34 : decode cX1_averageRate 34 = .ok (.aload_n 0, 1) := by decide +kernel
theorem dX1_averageRate_35 : decode cX1_averageRate 35 = .ok (.getfield 15, 3) := by decide +kernel
theorem dX1_averageRate_38 : decode cX1_averageRate 38 = .ok (.iload 5, 2) := by decide +kernel
theorem dX1_averageRate_40 : decode cX1_averageRate 40 = .ok (.iaload, 1) := by decide +kernel
theorem dX1_averageRate_41 : decode cX1_averageRate 41 = .ok (.i2l, 1) := by decide +kernel
theorem dX1_averageRate_42 : decode cX1_averageRate 42 = .ok (.lmul, 1) := by decide +kernel
theorem dX1_averageRate_43 : decode cX1_averageRate 43 = .ok (.ladd, 1) := by decide +kernel
theorem dX1_averageRate_44 : decode cX1_averageRate 44 = .ok (.lstore_n 3, 1) := by decide +kernel
theorem dX1_averageRate_45 : decode cX1_averageRate 45 = .ok (.iinc 5 1, 3) := by decide +kernel
theorem dX1_averageRate_48 : decode cX1_averageRate 48 = .ok (.goto (-41), 3) := by decide +kernel
theorem dX1_averageRate_51 : decode cX1_averageRate 51 = .ok (.lload_n 1, 1) := by decide +kernel
theorem dX1_averageRate_52 : decode cX1_averageRate 52 = .ok (.lconst 0, 1) := by decide +kernel
theorem dX1_averageRate_53 : decode cX1_averageRate 53 = .ok (.lcmp, 1) := by decide +kernel
theorem dX1_averageRate_54 : decode cX1_averageRate 54 = .ok (.ifCond .le 10, 3) := by decide +kernel
theorem dX1_averageRate_57 : decode cX1_averageRate 57 = .ok (.lload_n 3, 1) := by decide +kernel
theorem dX1_averageRate_58 : decode cX1_averageRate 58 = .ok (.lload_n 1, 1) := by decide +kernel
theorem dX1_averageRate_59 : decode cX1_averageRate 59 = .ok (.ldiv, 1) := by decide +kernel
theorem dX1_averageRate_60 : decode cX1_averageRate 60 = .ok (.l2i, 1) := by decide +kernel
theorem dX1_averageRate_61 : decode cX1_averageRate 61 = .ok (.goto 4, 3) := by decide +kernel
theorem dX1_averageRate_64 : decode cX1_averageRate 64 = .ok (.iconst 0, 1) := by decide +kernel
theorem dX1_averageRate_65 : decode cX1_averageRate 65 = .ok (.ireturn, 1) := by decide +kernel
end
section
set_option maxRecDepth 20000 in
theorem ggX2_init_X1_init : GoodIn wsX2_init wsX1_init := goodIn_r _ [24, 25, 2, 3, 4, 26, 27, 41, 42] (by decide +kernel) (by decide +kernel)
set_option maxRecDepth 20000 in
theorem gX2_init_X1_init_n40 : GoodIn wsX2_init (wsX1_init) := ggX2_init_X1_init
theorem dX2_init_0 : decode cX2_init 0 = .ok (.aload_n 0, 1) := by decide +kernel
theorem dX2_init_1 : decode cX2_init 1 = .ok (.invokespecial 1, 3) := by decide +kernel
theorem dX2_init_4 : decode cX2_init 4 = .ok (.aload_n 0, 1) := by decide +kernel
theorem dX2_init_5 : decode cX2_init 5 = .ok (.bipush 6, 2) := by decide +kernel
theorem dX2_init_7 : decode cX2_init 7 = .ok (.newarray .int, 2) := by decide +kernel
theorem dX2_init_9 : decode cX2_init 9 = .ok (.putfield 9, 3) := by decide +kernel
theorem dX2_init_12 : decode cX2_init 12 = .ok (.aload_n 0, 1) := by decide +kernel
theorem dX2_init_13 : decode cX2_init 13 = .ok (.iconst 0, 1) := by decide +kernel
theorem dX2_init_14 : decode cX2_init 14 = .ok (.putfield 13, 3) := by decide +kernel
theorem dX2_init_17 : decode cX2_init 17 = .ok (.aload_n 0, 1) := by decide +kernel
theorem dX2_init_18 : decode cX2_init 18 = .ok (.iconst 0, 1) := by decide +kernel
theorem dX2_init_19 : decode cX2_init 19 = .ok (.putfield 17, 3) := by decide +kernel
theorem dX2_init_22 : decode cX2_init 22 = .ok (.aload_n 0, 1) := by decide +kernel
theorem dX2_init_23 : decode cX2_init 23 = .ok (.bipush 50, 2) := by decide +kernel
theorem dX2_init_25 : decode cX2_init 25 = .ok (.putfield 20, 3) := by decide +kernel
theorem dX2_init_28 : decode cX2_init 28 = .ok (.aload_n 0, 1) := by decide +kernel
theorem dX2_init_29 : decode cX2_init 29 = .ok (.iconst 0, 1) := by decide +kernel
theorem dX2_init_30 : decode cX2_init 30 = .ok (.putfield 23, 3) := by decide +kernel
theorem dX2_init_33 : decode cX2_init 33 = .ok (.aload_n 0, 1) := by decide +kernel
theorem dX2_init_34 : decode cX2_init 34 = .ok (.bipush 24, 2) := by decide +kernel
theorem dX2_init_36 : decode cX2_init 36 = .ok (.anewarray 26, 3) := by decide +kernel
theorem dX2_init_39 : decode cX2_init 39 = .ok (.putfield 28, 3) := by decide +kernel
theorem dX2_init_42 : decode cX2_init 42 = .ok (.aload_n 0, 1) := by decide +kernel
theorem dX2_init_43 : decode cX2_init 43 = .ok (.iconst 0, 1) := by decide +kernel
theorem dX2_init_44 : decode cX2_init 44 = .ok (.putfield 32, 3) := by decide +kernel
theorem dX2_init_47 : decode cX2_init 47 = .ok (.aload_n 0, 1) := by decide +kernel
theorem dX2_init_48 : decode cX2_init 48 = .ok (.iconst 3, 1) := by decide +kernel
theorem dX2_init_49 : decode cX2_init 49 = .ok (.newarray .int, 2) := by decide +kernel
theorem dX2_init_51 : decode cX2_init 51 = .ok (.putfield 35, 3) := by decide +kernel
theorem dX2_init_54 : decode cX2_init 54 = .ok (.aload_n 0, 1) := by decide +kernel
theorem dX2_init_55 : decode cX2_init 55 = .ok (.new 38, 3) := by decide +kernel
theorem dX2_init_58 : decode cX2_init 58 = .ok (.dup, 1) := by decide +kernel
theorem dX2_init_59 : decode cX2_init 59 = .ok (.invokespecial 40, 3) := by decide +kernel
theorem dX2_init_62 : decode cX2_init 62 = .ok (.putfield 41, 3) := by decide +kernel
theorem dX2_init_65 : decode cX2_init 65 = .ok (.aload_n 0, 1) := by decide +kernel
theorem dX2_init_66 : decode cX2_init 66 = .ok (.iconst 3, 1) := by decide +kernel
theorem dX2_init_67 : decode cX2_init 67 = .ok (.bipush 47, 2) := by decide +kernel
theorem dX2_init_69 : decode cX2_init 69 = .ok (.multianewarray 45 2, 4) := by decide +kernel
theorem dX2_init_73 : decode cX2_init 73 = .ok (.putfield 47, 3) := by decide +kernel
theorem dX2_init_76 : decode cX2_init 76 = .ok (.aload_n 0, 1) := by decide +kernel
theorem dX2_init_77 : decode cX2_init 77 = .ok (.iconst 3, 1) := by decide +kernel
theorem dX2_init_78 : decode cX2_init 78 = .ok (.bipush 47, 2) := by decide +kernel
theorem dX2_init_80 : decode cX2_init 80 = .ok (.multianewarray 45 2, 4) := by decide +kernel
theorem dX2_init_84 : decode cX2_init 84 = .ok (.putfield 50, 3) := by decide +kernel
theorem dX2_init_87 : decode cX2_init 87 = .ok (.aload_n 0, 1) := by decide +kernel
theorem dX2_init_88 : decode cX2_init 88 = .ok (.bipush 47, 2) := by decide +kernel
theorem dX2_init_90 : decode cX2_init 90 = .ok (.newarray .int, 2) := by decide +kernel
theorem dX2_init_92 : decode cX2_init 92 = .ok (.putfield 53, 3) := by decide +kernel
theorem dX2_init_95 : decode cX2_init 95 = .ok (.aload_n 0, 1) := by decide +kernel
theorem dX2_init_96 : decode cX2_init 96 = .ok (.bipush 47, 2) := by decide +kernel
theorem dX2_init_98 : decode cX2_init 98 = .ok (.newarray .int, 2) := by decide +kernel
theorem dX2_init_100 : decode cX2_init 100 = .ok (.putfield 56, 3) := by decide +kernel
theorem dX2_init_103 : decode cX2_init 103 = .ok (.return_, 1) := by decide +kernel
theorem dX2_setCurve_0 : decode cX2_setCurve 0 = .ok (.iload_n 1, 1) := by decide +kernel
theorem dX2_setCurve_1 : decode cX2_setCurve 1 = .ok (.iconst 1, 1) := by decide +kernel
theorem dX2_setCurve_2 : decode cX2_setCurve 2 = .ok (.if_icmp .lt 9, 3) := by decide +kernel
theorem dX2_setCurve_5 : decode cX2_setCurve 5 = .ok (.iload_n 1, 1) := by decide +kernel
theorem dX2_setCurve_6 : decode cX2_setCurve 6 = .ok (.bipush 6, 2) := by decide +kernel
theorem dX2_setCurve_8 : decode cX2_setCurve 8 = .ok (.if_icmp .le 13, 3) := by decide +kernel
theorem dX2_setCurve_11 : decode cX2_setCurve 11 = .ok (.new 59, 3) := by decide +kernel
theorem dX2_setCurve_14 : decode cX2_setCurve 14 = .ok (.dup, 1) := by decide +kernel
theorem dX2_setCurve_15 : decode cX2_setCurve 15 = .ok (.ldc 61, 2) := by decide +kernel
theorem dX2_setCurve_17 : decode cX2_setCurve 17 = .ok (.invokespecial 63, 3) := by decide +kernel
theorem dX2_setCurve_20 : decode cX2_setCurve 20 = .ok (.athrow, 1) := by decide +kernel
theorem dX2_setCurve_21 : decode cX2_setCurve 21 = .ok (.iload_n 2, 1) := by decide +kernel
theorem dX2_setCurve_22 : decode cX2_setCurve 22 = .ok (.ifCond .lt 10, 3) := by decide +kernel
theorem dX2_setCurve_25 : decode cX2_setCurve 25 = .ok (.iload_n 2, 1) := by decide +kernel
theorem dX2_setCurve_26 : decode cX2_setCurve 26 = .ok (.sipush 5000, 3) := by decide +kernel
theorem dX2_setCurve_29 : decode cX2_setCurve 29 = .ok (.if_icmp .le 13, 3) := by decide +kernel
theorem dX2_setCurve_32 : decode cX2_setCurve 32 = .ok (.new 66, 3) := by decide +kernel
theorem dX2_setCurve_35 : decode cX2_setCurve 35 = .ok (.dup, 1) := by decide +kernel
theorem dX2_setCurve_36 : decode cX2_setCurve 36 = .ok (.ldc 68, 2) := by decide +kernel
theorem dX2_setCurve_38 : decode cX2_setCurve 38 = .ok (.invokespecial 70, 3) := by decide +kernel
theorem dX2_setCurve_41 : decode cX2_setCurve 41 = .ok (.athrow, 1) := by decide +kernel
theorem dX2_setCurve_42 : decode cX2_setCurve 42 = .ok (.aload_n 0, 1) := by decide +kernel
theorem dX2_setCurve_43 : decode cX2_setCurve 43 = .ok (.getfield 9, 3) := by decide +kernel
theorem dX2_setCurve_46 : decode cX2_setCurve 46 = .ok (.iload_n 1, 1) := by decide +kernel
theorem dX2_setCurve_47 : decode cX2_setCurve 47 = .ok (.iconst 1, 1) := by decide +kernel
theorem dX2_setCurve_48 : decode cX2_setCurve 48 = .ok (.isub, 1) := by decide +kernel
theorem dX2_setCurve_49 : decode cX2_setCurve 49 = .ok (.iaload, 1) := by decide +kernel
theorem dX2_setCurve_50 : decode cX2_setCurve 50 = .ok (.istore_n 3, 1) := by decide +kernel
theorem dX2_setCurve_51 : decode cX2_setCurve 51 = .ok (.aload_n 0, 1) := by decide +kernel
theorem dX2_setCurve_52 : decode cX2_setCurve 52 = .ok (.getfield 9, 3) := by decide +kernel
theorem dX2_setCurve_55 : decode cX2_setCurve 55 = .ok (.iload_n 1, 1) := by decide +kernel
theorem dX2_setCurve_56 : decode cX2_setCurve 56 = .ok (.iconst 1, 1) := by decide +kernel
theorem dX2_setCurve_57 : decode cX2_setCurve 57 = .ok (.isub, 1) := by decide +kernel
theorem dX2_setCurve_58 : decode cX2_setCurve 58 = .ok (.iload_n 2, 1) := by decide +kernel
theorem dX2_setCurve_59 : decode cX2_setCurve 59 = .ok (.iastore, 1) := by decide +kernel
theorem dX2_setCurve_60 : decode cX2_setCurve 60 = .ok (.iload_n 3, 1) := by decide +kernel
theorem dX2_setCurve_61 : decode cX2_setCurve 61 = .ok (.ireturn, 1) := by decide +kernel
theorem dX2_setRates_0 : decode cX2_setRates 0 = .ok (.iload_n 1, 1) := by decide +kernel
theorem dX2_setRates_1 : decode cX2_setRates 1 = .ok (.ifCond .lt 10, 3) := by decide +kernel
theorem dX2_setRates_4 : decode cX2_setRates 4 = .ok (.iload_n 1, 1) := by decide +kernel
theorem dX2_setRates_5 : decode cX2_setRates 5 = .ok (.sipush 5000, 3) := by decide +kernel
theorem dX2_setRates_8 : decode cX2_setRates 8 = .ok (.if_icmp .le 13, 3) := by decide +kernel
theorem dX2_setRates_11 : decode cX2_setRates 11 = .ok (.new 66, 3) := by decide +kernel
theorem dX2_setRates_14 : decode cX2_setRates 14 = .ok (.dup, 1) := by decide +kernel
theorem dX2_setRates_15 : decode cX2_setRates 15 = .ok (.ldc 71, 2) := by decide +kernel
theorem dX2_setRates_17 : decode cX2_setRates 17 = .ok (.invokespecial 70, 3) := by decide +kernel
theorem dX2_setRates_20 : decode cX2_setRates 20 = .ok (.athrow, 1) := by decide +kernel
theorem dX2_setRates_21 : decode cX2_setRates 21 = .ok (.iload_n 2, 1) := by decide +kernel
theorem dX2_setRates_22 : decode cX2_setRates 22 = .ok (.ifCond .lt 10, 3) := by decide +kernel
theorem dX2_setRates_25 : decode cX2_setRates 25 = .ok (.iload_n 2, 1) := by decide +kernel
theorem dX2_setRates_26 : decode cX2_setRates 26 = .ok (.sipush 5000, 3) := by decide +kernel
theorem dX2_setRates_29 : decode cX2_setRates 29 = .ok (.if_icmp .le 13, 3) := by decide +kernel
theorem dX2_setRates_32 : decode cX2_setRates 32 = .ok (.new 66, 3) := by decide +kernel
theorem dX2_setRates_35 : decode cX2_setRates 35 = .ok (.dup, 1) := by decide +kernel
theorem dX2_setRates_36 : decode cX2_setRates 36 = .ok (.ldc 73, 2) := by decide +kernel
theorem dX2_setRates_38 : decode cX2_setRates 38 = .ok (.invokespecial 70, 3) := by decide +kernel
theorem dX2_setRates_41 : decode cX2_setRates 41 = .ok (.athrow, 1) := by decide +kernel
theorem dX2_setRates_42 : decode cX2_setRates 42 = .ok (.iload_n 3, 1) := by decide +kernel
theorem dX2_setRates_43 : decode cX2_setRates 43 = .ok (.ifCond .lt 9, 3) := by decide +kernel
theorem dX2_setRates_46 : decode cX2_setRates 46 = .ok (.iload_n 3, 1) := by decide +kernel
theorem dX2_setRates_47 : decode cX2_setRates 47 = .ok (.bipush 100, 2) := by decide +kernel
theorem dX2_setRates_49 : decode cX2_setRates 49 = .ok (.if_icmp .le 13, 3) := by decide +kernel
theorem dX2_setRates_52 : decode cX2_setRates 52 = .ok (.new 66, 3) := by decide +kernel
theorem dX2_setRates_55 : decode cX2_setRates 55 = .ok (.dup, 1) := by decide +kernel
theorem dX2_setRates_56 : decode cX2_setRates 56 = .ok (.ldc 75, 2) := by decide +kernel
theorem dX2_setRates_58 : decode cX2_setRates 58 = .ok (.invokespecial 70, 3) := by decide +kernel
theorem dX2_setRates_61 : decode cX2_setRates 61 = .ok (.athrow, 1) := by decide +kernel
theorem dX2_setRates_62 : decode cX2_setRates 62 = .ok (.aload_n 0, 1) := by decide +kernel
theorem dX2_setRates_63 : decode cX2_setRates 63 = .ok (.iload_n 1, 1) := by decide +kernel
theorem dX2_setRates_64 : decode cX2_setRates 64 = .ok (.putfield 13, 3) := by decide +kernel
theorem dX2_setRates_67 : decode cX2_setRates 67 = .ok (.aload_n 0, 1) := by decide +kernel
theorem dX2_setRates_68 : decode cX2_setRates 68 = .ok (.iload_n 2, 1) := by decide +kernel
theorem dX2_setRates_69 : decode cX2_setRates 69 = .ok (.putfield 17, 3) := by decide +kernel
theorem dX2_setRates_72 : decode cX2_setRates 72 = .ok (.aload_n 0, 1) := by decide +kernel
theorem dX2_setRates_73 : decode cX2_setRates 73 = .ok (.iload_n 3, 1) := by decide +kernel
theorem dX2_setRates_74 : decode cX2_setRates 74 = .ok (.putfield 20, 3) := by decide +kernel
theorem dX2_setRates_77 : decode cX2_setRates 77 = .ok (.return_, 1) := by decide +kernel
set_option maxRecDepth 20000 in
theorem ggX2_lend_X2_cutIntoParts : GoodIn wsX2_lend wsX2_cutIntoParts := goodIn_r _ [24, 25] (by decide +kernel) (by decide +kernel)
set_option maxRecDepth 20000 in
theorem gX2_lend_X2_cutIntoParts : GoodIn wsX2_lend (va_wsS RX2 89 yX2_cutIntoParts wsX2_cutIntoParts) := goodIn_app (goodIn_of _ (by decide +kernel)) ggX2_lend_X2_cutIntoParts
set_option maxRecDepth 20000 in
theorem ggX2_lend_X0_init : GoodIn wsX2_lend wsX0_init := goodIn_r _ [27, 28, 29, 30, 31, 32, 33, 34, 35, 36, 37, 38, 52, 53, 54, 55, 56, 57, 58, 59] (by decide +kernel) (by decide +kernel)
set_option maxRecDepth 20000 in
theorem gX2_lend_X0_init_n98 : GoodIn wsX2_lend (wsX0_init) := ggX2_lend_X0_init
theorem dX2_lend_0 : decode cX2_lend 0 = .ok (.iload_n 1, 1) := by decide +kernel
theorem dX2_lend_1 : decode cX2_lend 1 = .ok (.ifCond .lt 17, 3) := by decide +kernel
theorem dX2_lend_4 : decode cX2_lend 4 = .ok (.iload_n 1, 1) := by decide +kernel
theorem dX2_lend_5 : decode cX2_lend 5 = .ok (.iconst 3, 1) := by decide +kernel
theorem dX2_lend_6 : decode cX2_lend 6 = .ok (.if_icmp .ge 12, 3) := by decide +kernel
theorem dX2_lend_9 : decode cX2_lend 9 = .ok (.iload_n 2, 1) := by decide +kernel
theorem dX2_lend_10 : decode cX2_lend 10 = .ok (.ifCond .lt 8, 3) := by decide +kernel
theorem dX2_lend_13 : decode cX2_lend 13 = .ok (.iload_n 2, 1) := by decide +kernel
theorem dX2_lend_14 : decode cX2_lend 14 = .ok (.iconst 3, 1) := by decide +kernel
theorem dX2_lend_15 : decode cX2_lend 15 = .ok (.if_icmp .lt 13, 3) := by decide +kernel
theorem dX2_lend_18 : decode cX2_lend 18 = .ok (.new 59, 3) := by decide +kernel
theorem dX2_lend_21 : decode cX2_lend 21 = .ok (.dup, 1) := by decide +kernel
theorem dX2_lend_22 : decode cX2_lend 22 = .ok (.ldc 77, 2) := by decide +kernel
theorem dX2_lend_24 : decode cX2_lend 24 = .ok (.invokespecial 63, 3) := by decide +kernel
theorem dX2_lend_27 : decode cX2_lend 27 = .ok (.athrow, 1) := by decide +kernel
theorem dX2_lend_28 : decode cX2_lend 28 = .ok (.iload_n 3, 1) := by decide +kernel
theorem dX2_lend_29 : decode cX2_lend 29 = .ok (.iconst 1, 1) := by decide +kernel
theorem dX2_lend_30 : decode cX2_lend 30 = .ok (.if_icmp .lt 9, 3) := by decide +kernel
theorem dX2_lend_33 : decode cX2_lend 33 = .ok (.iload_n 3, 1) := by decide +kernel
theorem dX2_lend_34 : decode cX2_lend 34 = .ok (.ldc 79, 2) := by decide +kernel
theorem dX2_lend_36 : decode cX2_lend 36 = .ok (.if_icmp .le 13, 3) := by decide +kernel
theorem dX2_lend_39 : decode cX2_lend 39 = .ok (.new 66, 3) := by decide +kernel
theorem dX2_lend_42 : decode cX2_lend 42 = .ok (.dup, 1) := by decide +kernel
theorem dX2_lend_43 : decode cX2_lend 43 = .ok (.ldc 80, 2) := by decide +kernel
theorem dX2_lend_45 : decode cX2_lend 45 = .ok (.invokespecial 70, 3) := by decide +kernel
theorem dX2_lend_48 : decode cX2_lend 48 = .ok (.athrow, 1) := by decide +kernel
theorem dX2_lend_49 : decode cX2_lend 49 = .ok (.iload 4, 2) := by decide +kernel
theorem dX2_lend_51 : decode cX2_lend 51 = .ok (.ifCond .lt 11, 3) := by decide +kernel
theorem dX2_lend_54 : decode cX2_lend 54 = .ok (.iload 4, 2) := by decide +kernel
theorem dX2_lend_56 : decode cX2_lend 56 = .ok (.sipush 5000, 3) := by decide +kernel
theorem dX2_lend_59 : decode cX2_lend 59 = .ok (.if_icmp .le 13, 3) := by decide +kernel
theorem dX2_lend_62 : decode cX2_lend 62 = .ok (.new 66, 3) := by decide +kernel
theorem dX2_lend_65 : decode cX2_lend 65 = .ok (.dup, 1) := by decide +kernel
theorem dX2_lend_66 : decode cX2_lend 66 = .ok (.ldc 68, 2) := by decide +kernel
theorem dX2_lend_68 : decode cX2_lend 68 = .ok (.invokespecial 70, 3) := by decide +kernel
theorem dX2_lend_71 : decode cX2_lend 71 = .ok (.athrow, 1) := by decide +kernel
theorem dX2_lend_72 : decode cX2_lend 72 = .ok (.iload 5, 2) := by decide +kernel
theorem dX2_lend_74 : decode cX2_lend 74 = .ok (.iconst 1, 1) := by decide +kernel
theorem dX2_lend_75 : decode cX2_lend 75 = .ok (.if_icmp .lt 10, 3) := by decide +kernel
theorem dX2_lend_78 : decode cX2_lend 78 = .ok (.iload 5, 2) := by decide +kernel
theorem dX2_lend_80 : decode cX2_lend 80 = .ok (.bipush 6, 2) := by decide +kernel
theorem dX2_lend_82 : decode cX2_lend 82 = .ok (.if_icmp .le 13, 3) := by decide +kernel
theorem dX2_lend_85 : decode cX2_lend 85 = .ok (.new 66, 3) := by decide +kernel
theorem dX2_lend_88 : decode cX2_lend 88 = .ok (.dup, 1) := by decide +kernel
theorem dX2_lend_89 : decode cX2_lend 89 = .ok (.ldc 82, 2) := by decide +kernel
theorem dX2_lend_91 : decode cX2_lend 91 = .ok (.invokespecial 70, 3) := by decide +kernel
theorem dX2_lend_94 : decode cX2_lend 94 = .ok (.athrow, 1) := by decide +kernel
theorem dX2_lend_95 : decode cX2_lend 95 = .ok (.aload_n 0, 1) := by decide +kernel
theorem dX2_lend_96 : decode cX2_lend 96 = .ok (.getfield 32, 3) := by decide +kernel
theorem dX2_lend_99 : decode cX2_lend 99 = .ok (.bipush 24, 2) := by decide +kernel
theorem dX2_lend_101 : decode cX2_lend 101 = .ok (.if_icmp .lt 13, 3) := by decide +kernel
theorem dX2_lend_104 : decode cX2_lend 104 = .ok (.new 84, 3) := by decide +kernel
theorem dX2_lend_107 : decode cX2_lend 107 = .ok (.dup, 1) := by decide +kernel
theorem dX2_lend_108 : decode cX2_lend 108 = .ok (.ldc 86, 2) := by decide +kernel
theorem dX2_lend_110 : decode cX2_lend 110 = .ok (.invokespecial 88, 3) := by decide +kernel
theorem dX2_lend_113 : decode cX2_lend 113 = .ok (.athrow, 1) := by decide +kernel
theorem dX2_lend_114 : decode cX2_lend 114 = .ok (.iload_n 3, 1) := by decide +kernel
theorem dX2_lend_115 : decode cX2_lend 115 = .ok (.iload_n 3, 1) := by decide +kernel
theorem dX2_lend_116 : decode cX2_lend 116 = .ok (.iload 5, 2) := by decide +kernel
theorem dX2_lend_118 : decode cX2_lend 118 = .ok (.idiv, 1) := by decide +kernel
theorem dX2_lend_119 : decode cX2_lend 119 = .ok (.iload 5, 2) := by decide +kernel
theorem dX2_lend_121 : decode cX2_lend 121 = .ok (.invokestatic 89, 3) := by decide +kernel
theorem dX2_lend_124 : decode cX2_lend 124 = .ok (.astore 7, 2) := by decide +kernel
theorem dX2_lend_126 : decode cX2_lend 126 = .ok (.iload 6, 2) := by decide +kernel
theorem dX2_lend_128 : decode cX2_lend 128 = .ok (.ifCond .eq 10, 3) := by decide +kernel
theorem dX2_lend_131 : decode cX2_lend 131 = .ok (.aload_n 0, 1) := by decide +kernel
theorem dX2_lend_132 : decode cX2_lend 132 = .ok (.getfield 17, 3) := by decide +kernel
theorem dX2_lend_135 : decode cX2_lend 135 = .ok (.goto 4, 3) := by decide +kernel
theorem dX2_lend_138 : decode cX2_lend 138 = .ok (.iconst 0, 1) := by decide +kernel
theorem dX2_lend_139 : decode cX2_lend 139 = .ok (.istore 8, 2) := by decide +kernel
theorem dX2_lend_141 : decode cX2_lend 141 = .ok (.aload_n 0, 1) := by decide +kernel
theorem dX2_lend_142 : decode cX2_lend 142 = .ok (.getfield 32, 3) := by decide +kernel
theorem dX2_lend_145 : decode cX2_lend 145 = .ok (.istore 9, 2) := by decide +kernel
theorem dX2_lend_147 : decode cX2_lend 147 = .ok (.aload_n 0, 1) := by decide +kernel
theorem dX2_lend_148 : decode cX2_lend 148 = .ok (.getfield 28, 3) := by decide +kernel
theorem dX2_lend_151 : decode cX2_lend 151 = .ok (.iload 9, 2) := by decide +kernel
theorem dX2_lend_153 : decode cX2_lend 153 = .ok (.new 26, 3) := by decide +kernel
theorem dX2_lend_156 : decode cX2_lend 156 = .ok (.dup, 1) := by decide +kernel
theorem dX2_lend_157 : decode cX2_lend 157 = .ok (.iload_n 1, 1) := by decide +kernel
theorem dX2_lend_158 : decode cX2_lend 158 = .ok (.iload_n 2, 1) := by decide +kernel
theorem dX2_lend_159 : decode cX2_lend 159 = .ok (.iload 4, 2) := by decide +kernel
theorem dX2_lend_161 : decode cX2_lend 161 = .ok (.iload 6, 2) := by decide +kernel
theorem dX2_lend_163 : decode cX2_lend 163 = .ok (.iload 8, 2) := by decide +kernel
theorem dX2_lend_165 : decode cX2_lend 165 = .ok (.aload 7, 2) := by decide +kernel
theorem dX2_lend_167 : decode cX2_lend 167 = .ok (.aload_n 0, 1) := by decide +kernel
theorem dX2_lend_168 : decode cX2_lend 168 = .ok (.getfield 9, 3) := by decide +kernel
theorem dX2_lend_171 : decode cX2_lend 171 = .ok (.invokevirtual 93, 3) := by decide +kernel
theorem dX2_lend_174 : decode cX2_lend 174 = .ok (.checkcast 94, 3) := by decide +kernel
theorem dX2_lend_177 : decode cX2_lend 177 = .ok (.invokespecial 98, 3) := by decide +kernel
theorem dX2_lend_180 : decode cX2_lend 180 = .ok (.aastore, 1) := by decide +kernel
theorem dX2_lend_181 : decode cX2_lend 181 = .ok (.aload_n 0, 1) := by decide +kernel
theorem dX2_lend_182 : decode cX2_lend 182 = .ok (.iload 9, 2) := by decide +kernel
theorem dX2_lend_184 : decode cX2_lend 184 = .ok (.iconst 1, 1) := by decide +kernel
theorem dX2_lend_185 : decode cX2_lend 185 = .ok (.iadd, 1) := by decide +kernel
theorem dX2_lend_186 : decode cX2_lend 186 = .ok (.putfield 32, 3) := by decide +kernel
theorem dX2_lend_189 : decode cX2_lend 189 = .ok (.iload 9, 2) := by decide +kernel
theorem dX2_lend_191 : decode cX2_lend 191 = .ok (.ireturn, 1) := by decide +kernel
set_option maxRecDepth 20000 in
theorem ggX2_repay_X2_findLoan : GoodIn wsX2_repay wsX2_findLoan := goodIn_r _ [9, 10, 28, 29, 30, 31, 32, 33, 34, 35, 36, 37, 38, 39, 40] (by decide +kernel) (by decide +kernel)
set_option maxRecDepth 20000 in
theorem gX2_repay_X2_findLoan : GoodIn wsX2_repay (wsV RX2 101 RX2 yX2_findLoan wsX2_findLoan) := goodIn_app (goodIn_of _ (by decide +kernel)) ggX2_repay_X2_findLoan
set_option maxRecDepth 20000 in
theorem ggX2_repay_X0_unpaid : GoodIn wsX2_repay wsX0_unpaid := goodIn_r _ [14, 15, 16, 20, 21, 22, 23, 24, 25, 26, 27] (by decide +kernel) (by decide +kernel)
set_option maxRecDepth 20000 in
theorem gX2_repay_X0_unpaid_n107 : GoodIn wsX2_repay (wsX0_unpaid) := ggX2_repay_X0_unpaid
set_option maxRecDepth 20000 in
theorem ggX2_repay_X0_settle : GoodIn wsX2_repay wsX0_settle := goodIn_r _ [19, 15, 20, 21, 22, 23, 24, 25, 26, 27] (by decide +kernel) (by decide +kernel)
set_option maxRecDepth 20000 in
theorem gX2_repay_X0_settle_n117 : GoodIn wsX2_repay (wsX0_settle) := ggX2_repay_X0_settle
theorem dX2_repay_0 : decode cX2_repay 0 = .ok (.aload_n 0, 1) := by decide +kernel
theorem dX2_repay_1 : decode cX2_repay 1 = .ok (.iload_n 1, 1) := by decide +kernel
theorem dX2_repay_2 : decode cX2_repay 2 = .ok (.invokevirtual 101, 3) := by decide +kernel
theorem dX2_repay_5 : decode cX2_repay 5 = .ok (.astore_n 2, 1) := by decide +kernel
theorem dX2_repay_6 : decode cX2_repay 6 = .ok (.aload_n 2, 1) := by decide +kernel
theorem dX2_repay_7 : decode cX2_repay 7 = .ok (.ifnonnull 13, 3) := by decide +kernel
theorem dX2_repay_10 : decode cX2_repay 10 = .ok (.new 59, 3) := by decide +kernel
theorem dX2_repay_13 : decode cX2_repay 13 = .ok (.dup, 1) := by decide +kernel
theorem dX2_repay_14 : decode cX2_repay 14 = .ok (.ldc 105, 2) := by decide +kernel
theorem dX2_repay_16 : decode cX2_repay 16 = .ok (.invokespecial 63, 3) := by decide +kernel
theorem dX2_repay_19 : decode cX2_repay 19 = .ok (.athrow, 1) := by decide +kernel
theorem dX2_repay_20 : decode cX2_repay 20 = .ok (.aload_n 2, 1) := by decide +kernel
theorem dX2_repay_21 : decode cX2_repay 21 = .ok (.invokevirtual 107, 3) := by decide +kernel
theorem dX2_repay_24 : decode cX2_repay 24 = .ok (.istore_n 3, 1) := by decide +kernel
theorem dX2_repay_25 : decode cX2_repay 25 = .ok (.aload_n 2, 1) := by decide +kernel
theorem dX2_repay_26 : decode cX2_repay 26 = .ok (.getfield 111, 3) := by decide +kernel
theorem dX2_repay_29 : decode cX2_repay 29 = .ok (.ifCond .eq 7, 3) := by decide +kernel
theorem dX2_repay_32 : decode cX2_repay 32 = .ok (.iload_n 3, 1) := by decide +kernel
theorem dX2_repay_33 : decode cX2_repay 33 = .ok (.ifCond .ne 13, 3) := by decide +kernel
theorem dX2_repay_36 : decode cX2_repay 36 = .ok (.new 84, 3) := by decide +kernel
theorem dX2_repay_39 : decode cX2_repay 39 = .ok (.dup, 1) := by decide +kernel
theorem dX2_repay_40 : decode cX2_repay 40 = .ok (.ldc 115, 2) := by decide +kernel
theorem dX2_repay_42 : decode cX2_repay 42 = .ok (.invokespecial 88, 3) := by decide +kernel
theorem dX2_repay_45 : decode cX2_repay 45 = .ok (.athrow, 1) := by decide +kernel
theorem dX2_repay_46 : decode cX2_repay 46 = .ok (.aload_n 2, 1) := by decide +kernel
theorem dX2_repay_47 : decode cX2_repay 47 = .ok (.invokevirtual 117, 3) := by decide +kernel
theorem dX2_repay_50 : decode cX2_repay 50 = .ok (.iload_n 3, 1) := by decide +kernel
theorem dX2_repay_51 : decode cX2_repay 51 = .ok (.ireturn, 1) := by decide +kernel
set_option maxRecDepth 20000 in
theorem ggX2_deposit_X2_trancheAmount : GoodIn wsX2_deposit wsX2_trancheAmount := goodIn_r _ [17, 9, 18, 19, 20, 16, 21, 22, 23, 34, 35, 36, 37, 38, 39, 40, 41, 42, 43, 44, 45, 46] (by decide +kernel) (by decide +kernel)
set_option maxRecDepth 20000 in
theorem gX2_deposit_X2_trancheAmount : GoodIn wsX2_deposit (wsV RX2 127 RX2 yX2_trancheAmount wsX2_trancheAmount) := goodIn_app (goodIn_of _ (by decide +kernel)) ggX2_deposit_X2_trancheAmount
set_option maxRecDepth 20000 in
theorem ggX2_deposit_X1_layAll : GoodIn wsX2_deposit wsX1_layAll := goodIn_r _ [27, 28, 29, 30, 25, 31, 32, 33, 47, 48] (by decide +kernel) (by decide +kernel)
set_option maxRecDepth 20000 in
theorem gX2_deposit_X1_layAll_n130 : GoodIn wsX2_deposit (wsX1_layAll) := ggX2_deposit_X1_layAll
theorem dX2_deposit_0 : decode cX2_deposit 0 = .ok (.iload_n 1, 1) := by decide +kernel
theorem dX2_deposit_1 : decode cX2_deposit 1 = .ok (.ifCond .lt 8, 3) := by decide +kernel
theorem dX2_deposit_4 : decode cX2_deposit 4 = .ok (.iload_n 1, 1) := by decide +kernel
theorem dX2_deposit_5 : decode cX2_deposit 5 = .ok (.iconst 3, 1) := by decide +kernel
theorem dX2_deposit_6 : decode cX2_deposit 6 = .ok (.if_icmp .lt 13, 3) := by decide +kernel
theorem dX2_deposit_9 : decode cX2_deposit 9 = .ok (.new 59, 3) := by decide +kernel
theorem dX2_deposit_12 : decode cX2_deposit 12 = .ok (.dup, 1) := by decide +kernel
theorem dX2_deposit_13 : decode cX2_deposit 13 = .ok (.ldc 120, 2) := by decide +kernel
theorem dX2_deposit_15 : decode cX2_deposit 15 = .ok (.invokespecial 63, 3) := by decide +kernel
theorem dX2_deposit_18 : decode cX2_deposit 18 = .ok (.athrow, 1) := by decide +kernel
theorem dX2_deposit_19 : decode cX2_deposit 19 = .ok (.iload_n 2, 1) := by decide +kernel
theorem dX2_deposit_20 : decode cX2_deposit 20 = .ok (.ldc 122, 2) := by decide +kernel
theorem dX2_deposit_22 : decode cX2_deposit 22 = .ok (.if_icmp .lt 9, 3) := by decide +kernel
theorem dX2_deposit_25 : decode cX2_deposit 25 = .ok (.iload_n 2, 1) := by decide +kernel
theorem dX2_deposit_26 : decode cX2_deposit 26 = .ok (.ldc 79, 2) := by decide +kernel
theorem dX2_deposit_28 : decode cX2_deposit 28 = .ok (.if_icmp .le 13, 3) := by decide +kernel
theorem dX2_deposit_31 : decode cX2_deposit 31 = .ok (.new 66, 3) := by decide +kernel
theorem dX2_deposit_34 : decode cX2_deposit 34 = .ok (.dup, 1) := by decide +kernel
theorem dX2_deposit_35 : decode cX2_deposit 35 = .ok (.ldc 123, 2) := by decide +kernel
theorem dX2_deposit_37 : decode cX2_deposit 37 = .ok (.invokespecial 70, 3) := by decide +kernel
theorem dX2_deposit_40 : decode cX2_deposit 40 = .ok (.athrow, 1) := by decide +kernel
theorem dX2_deposit_41 : decode cX2_deposit 41 = .ok (.aload_n 0, 1) := by decide +kernel
theorem dX2_deposit_42 : decode cX2_deposit 42 = .ok (.getfield 35, 3) := by decide +kernel
theorem dX2_deposit_45 : decode cX2_deposit 45 = .ok (.iload_n 1, 1) := by decide +kernel
theorem dX2_deposit_46 : decode cX2_deposit 46 = .ok (.iaload, 1) := by decide +kernel
theorem dX2_deposit_47 : decode cX2_deposit 47 = .ok (.iload_n 2, 1) := by decide +kernel
theorem dX2_deposit_48 : decode cX2_deposit 48 = .ok (.iadd, 1) := by decide +kernel
theorem dX2_deposit_49 : decode cX2_deposit 49 = .ok (.istore_n 3, 1) := by decide +kernel
theorem dX2_deposit_50 : decode cX2_deposit 50 = .ok (.iload_n 3, 1) := by decide +kernel
theorem dX2_deposit_51 : decode cX2_deposit 51 = .ok (.ifCond .lt 9, 3) := by decide +kernel
theorem dX2_deposit_54 : decode cX2_deposit 54 = .ok (.iload_n 3, 1) := by decide +kernel
theorem dX2_deposit_55 : decode cX2_deposit 55 = .ok (.ldc 79, 2) := by decide +kernel
theorem dX2_deposit_57 : decode cX2_deposit 57 = .ok (.if_icmp .le 13, 3) := by decide +kernel
theorem dX2_deposit_60 : decode cX2_deposit 60 = .ok (.new 84, 3) := by decide +kernel
theorem dX2_deposit_63 : decode cX2_deposit 63 = .ok (.dup, 1) := by decide +kernel
theorem dX2_deposit_64 : decode cX2_deposit 64 = .ok (.ldc 125, 2) := by decide +kernel
theorem dX2_deposit_66 : decode cX2_deposit 66 = .ok (.invokespecial 88, 3) := by decide +kernel
theorem dX2_deposit_69 : decode cX2_deposit 69 = .ok (.athrow, 1) := by decide +kernel
theorem dX2_deposit_70 : decode cX2_deposit 70 = .ok (.aload_n 0, 1) := by decide +kernel
theorem dX2_deposit_71 : decode cX2_deposit 71 = .ok (.getfield 35, 3) := by decide +kernel
theorem dX2_deposit_74 : decode cX2_deposit 74 = .ok (.iload_n 1, 1) := by decide +kernel
theorem dX2_deposit_75 : decode cX2_deposit 75 = .ok (.iload_n 3, 1) := by decide +kernel
theorem dX2_deposit_76 : decode cX2_deposit 76 = .ok (.iastore, 1) := by decide +kernel
theorem dX2_deposit_77 : decode cX2_deposit 77 = .ok (.aload_n 0, 1) := by decide +kernel
theorem dX2_deposit_78 : decode cX2_deposit 78 = .ok (.getfield 23, 3) := by decide +kernel
theorem dX2_deposit_81 : decode cX2_deposit 81 = .ok (.ifCond .ne 24, 3) := by decide +kernel
theorem dX2_deposit_84 : decode cX2_deposit 84 = .ok (.iload_n 2, 1) := by decide +kernel
theorem dX2_deposit_85 : decode cX2_deposit 85 = .ok (.ifCond .eq 20, 3) := by decide +kernel
theorem dX2_deposit_88 : decode cX2_deposit 88 = .ok (.aload_n 0, 1) := by decide +kernel
theorem dX2_deposit_89 : decode cX2_deposit 89 = .ok (.getfield 41, 3) := by decide +kernel
theorem dX2_deposit_92 : decode cX2_deposit 92 = .ok (.aload_n 0, 1) := by decide +kernel
theorem dX2_deposit_93 : decode cX2_deposit 93 = .ok (.invokevirtual 127, 3) := by decide +kernel
theorem dX2_deposit_96 : decode cX2_deposit 96 = .ok (.aload_n 0, 1) := by decide +kernel
theorem dX2_deposit_97 : decode cX2_deposit 97 = .ok (.getfield 9, 3) := by decide +kernel
theorem dX2_deposit_100 : decode cX2_deposit 100 = .ok (.iconst 5, 1) := by decide +kernel
theorem dX2_deposit_101 : decode cX2_deposit 101 = .ok (.iaload, 1) := by decide +kernel
theorem dX2_deposit_102 : decode cX2_deposit 102 = .ok (.invokevirtual 130, 3) := by decide +kernel
theorem dX2_deposit_105 : decode cX2_deposit 105 = .ok (.iload_n 3, 1) := by decide +kernel
theorem dX2_deposit_106 : decode cX2_deposit 106 = .ok (.ireturn, 1) := by decide +kernel
set_option maxRecDepth 20000 in
theorem ggX2_closeMonth_X2_reckonLoans : GoodIn wsX2_closeMonth wsX2_reckonLoans := goodIn_r _ [10, 11, 3, 12, 13, 14, 15, 16, 17, 18, 9, 19, 20, 21, 22, 23, 24, 25, 26, 27, 28, 29, 30, 31, 32, 33, 34, 35, 36, 37, 38, 39, 40, 41, 42, 43, 44, 45, 46, 47, 48, 49, 50, 51, 89, 90, 91, 92, 93, 94, 95, 96, 97, 98, 99, 100, 101, 102, 103, 104, 105, 106, 107, 108, 109] (by decide +kernel) (by decide +kernel)
set_option maxRecDepth 20000 in
theorem gX2_closeMonth_X2_reckonLoans : GoodIn wsX2_closeMonth (wsV RX2 136 RX2 yX2_reckonLoans wsX2_reckonLoans) := goodIn_app (goodIn_of _ (by decide +kernel)) ggX2_closeMonth_X2_reckonLoans
set_option maxRecDepth 20000 in
theorem ggX2_closeMonth_X2_reckonDeposits : GoodIn wsX2_closeMonth wsX2_reckonDeposits := goodIn_r _ [55, 4, 56, 57, 11, 3, 14, 15, 58, 59, 60, 61, 62, 63, 64, 65, 66, 9, 67, 5, 68, 69, 70, 71, 72, 73, 74, 35, 36, 37, 89, 90, 91, 92, 93, 94, 95, 96, 97, 98, 99, 100, 101, 110, 111] (by decide +kernel) (by decide +kernel)
set_option maxRecDepth 20000 in
theorem gX2_closeMonth_X2_reckonDeposits : GoodIn wsX2_closeMonth (wsV RX2 139 RX2 yX2_reckonDeposits wsX2_reckonDeposits) := goodIn_app (goodIn_of _ (by decide +kernel)) ggX2_closeMonth_X2_reckonDeposits
set_option maxRecDepth 20000 in
theorem ggX2_closeMonth_X2_payParts : GoodIn wsX2_closeMonth wsX2_payParts := goodIn_r _ [78, 13, 79, 21, 80, 81, 33, 89, 90, 91, 92, 93, 94, 95, 96, 97, 98, 99, 100, 101, 102, 103, 104, 105, 106, 107, 108, 109] (by decide +kernel) (by decide +kernel)
set_option maxRecDepth 20000 in
theorem gX2_closeMonth_X2_payParts : GoodIn wsX2_closeMonth (wsV RX2 142 RX2 yX2_payParts wsX2_payParts) := goodIn_app (goodIn_of _ (by decide +kernel)) ggX2_closeMonth_X2_payParts
set_option maxRecDepth 20000 in
theorem ggX2_closeMonth_X2_trancheAmount : GoodIn wsX2_closeMonth wsX2_trancheAmount := goodIn_r _ [85, 56, 68, 69, 70, 9, 71, 72, 73, 89, 90, 91, 92, 93, 94, 95, 96, 97, 98, 99, 100, 101] (by decide +kernel) (by decide +kernel)
set_option maxRecDepth 20000 in
theorem gX2_closeMonth_X2_trancheAmount : GoodIn wsX2_closeMonth (wsV RX2 127 RX2 yX2_trancheAmount wsX2_trancheAmount) := goodIn_app (goodIn_of _ (by decide +kernel)) ggX2_closeMonth_X2_trancheAmount
set_option maxRecDepth 20000 in
theorem ggX2_closeMonth_X1_lay : GoodIn wsX2_closeMonth wsX1_lay := goodIn_r _ [88, 62, 63, 110, 111] (by decide +kernel) (by decide +kernel)
set_option maxRecDepth 20000 in
theorem gX2_closeMonth_X1_lay_n145 : GoodIn wsX2_closeMonth (wsX1_lay) := ggX2_closeMonth_X1_lay
theorem dX2_closeMonth_0 : decode cX2_closeMonth 0 = .ok (.aload_n 0, 1) := by decide +kernel
theorem dX2_closeMonth_1 : decode cX2_closeMonth 1 = .ok (.getfield 23, 3) := by decide +kernel
theorem dX2_closeMonth_4 : decode cX2_closeMonth 4 = .ok (.bipush 47, 2) := by decide +kernel
theorem dX2_closeMonth_6 : decode cX2_closeMonth 6 = .ok (.if_icmp .lt 13, 3) := by decide +kernel
theorem dX2_closeMonth_9 : decode cX2_closeMonth 9 = .ok (.new 84, 3) := by decide +kernel
theorem dX2_closeMonth_12 : decode cX2_closeMonth 12 = .ok (.dup, 1) := by decide +kernel
theorem dX2_closeMonth_13 : decode cX2_closeMonth 13 = .ok (.ldc 134, 2) := by decide +kernel
theorem dX2_closeMonth_15 : decode cX2_closeMonth 15 = .ok (.invokespecial 88, 3) := by decide +kernel
theorem dX2_closeMonth_18 : decode cX2_closeMonth 18 = .ok (.athrow, 1) := by decide +kernel
theorem dX2_closeMonth_19 : decode cX2_closeMonth 19 = .ok (.aload_n 0, 1) := by decide +kernel
theorem dX2_closeMonth_20 : decode cX2_closeMonth 20 = .ok (.invokevirtual 136, 3) := by decide +kernel
theorem dX2_closeMonth_23 : decode cX2_closeMonth 23 = .ok (.aload_n 0, 1) := by decide +kernel
theorem dX2_closeMonth_24 : decode cX2_closeMonth 24 = .ok (.invokevirtual 139, 3) := by decide +kernel
theorem dX2_closeMonth_27 : decode cX2_closeMonth 27 = .ok (.aload_n 0, 1) := by decide +kernel
theorem dX2_closeMonth_28 : decode cX2_closeMonth 28 = .ok (.invokevirtual 142, 3) := by decide +kernel
theorem dX2_closeMonth_31 : decode cX2_closeMonth 31 = .ok (.aload_n 0, 1) := by decide +kernel
theorem dX2_closeMonth_32 : decode cX2_closeMonth 32 = .ok (.aload_n 0, 1) := by decide +kernel
theorem dX2_closeMonth_33 : decode cX2_closeMonth 33 = .ok (.getfield 23, 3) := by decide +kernel
theorem dX2_closeMonth_36 : decode cX2_closeMonth 36 = .ok (.iconst 1, 1) := by decide +kernel
theorem dX2_closeMonth_37 : decode cX2_closeMonth 37 = .ok (.iadd, 1) := by decide +kernel
theorem dX2_closeMonth_38 : decode cX2_closeMonth 38 = .ok (.putfield 23, 3) := by decide +kernel
theorem dX2_closeMonth_41 : decode cX2_closeMonth 41 = .ok (.aload_n 0, 1) := by decide +kernel
theorem dX2_closeMonth_42 : decode cX2_closeMonth 42 = .ok (.getfield 41, 3) := by decide +kernel
theorem dX2_closeMonth_45 : decode cX2_closeMonth 45 = .ok (.aload_n 0, 1) := by decide +kernel
theorem dX2_closeMonth_46 : decode cX2_closeMonth 46 = .ok (.getfield 23, 3) := by decide +kernel
theorem dX2_closeMonth_49 : decode cX2_closeMonth 49 = .ok (.bipush 6, 2) := by decide +kernel
theorem dX2_closeMonth_51 : decode cX2_closeMonth 51 = .ok (.irem, 1) := by decide +kernel
theorem dX2_closeMonth_52 : decode cX2_closeMonth 52 = .ok (.aload_n 0, 1) := by decide +kernel
theorem dX2_closeMonth_53 : decode cX2_closeMonth 53 = .ok (.invokevirtual 127, 3) := by decide +kernel
theorem dX2_closeMonth_56 : decode cX2_closeMonth 56 = .ok (.aload_n 0, 1) := by decide +kernel
theorem dX2_closeMonth_57 : decode cX2_closeMonth 57 = .ok (.getfield 9, 3) := by decide +kernel
theorem dX2_closeMonth_60 : decode cX2_closeMonth 60 = .ok (.iconst 5, 1) := by decide +kernel
theorem dX2_closeMonth_61 : decode cX2_closeMonth 61 = .ok (.iaload, 1) := by decide +kernel
theorem dX2_closeMonth_62 : decode cX2_closeMonth 62 = .ok (.invokevirtual 145, 3) := by decide +kernel
theorem dX2_closeMonth_65 : decode cX2_closeMonth 65 = .ok (.aload_n 0, 1) := by decide +kernel
theorem dX2_closeMonth_66 : decode cX2_closeMonth 66 = .ok (.getfield 23, 3) := by decide +kernel
theorem dX2_closeMonth_69 : decode cX2_closeMonth 69 = .ok (.ireturn, 1) := by decide +kernel
theorem dX2_month_0 : decode cX2_month 0 = .ok (.aload_n 0, 1) := by decide +kernel
theorem dX2_month_1 : decode cX2_month 1 = .ok (.getfield 23, 3) := by decide +kernel
theorem dX2_month_4 : decode cX2_month 4 = .ok (.ireturn, 1) := by decide +kernel
theorem dX2_loans_0 : decode cX2_loans 0 = .ok (.aload_n 0, 1) := by decide +kernel
theorem dX2_loans_1 : decode cX2_loans 1 = .ok (.getfield 32, 3) := by decide +kernel
theorem dX2_loans_4 : decode cX2_loans 4 = .ok (.ireturn, 1) := by decide +kernel
set_option maxRecDepth 20000 in
theorem ggX2_left_X2_findLoan : GoodIn wsX2_left wsX2_findLoan := goodIn_r _ [7, 8, 15, 16, 17, 18, 19, 20, 21, 22, 23, 24, 25, 26, 27] (by decide +kernel) (by decide +kernel)
set_option maxRecDepth 20000 in
theorem gX2_left_X2_findLoan : GoodIn wsX2_left (wsV RX2 101 RX2 yX2_findLoan wsX2_findLoan) := goodIn_app (goodIn_of _ (by decide +kernel)) ggX2_left_X2_findLoan
set_option maxRecDepth 20000 in
theorem ggX2_left_X0_unpaid : GoodIn wsX2_left wsX0_unpaid := goodIn_r _ [12, 13, 14, 28, 29, 30, 31, 32, 33, 34, 35] (by decide +kernel) (by decide +kernel)
set_option maxRecDepth 20000 in
theorem gX2_left_X0_unpaid_n107 : GoodIn wsX2_left (wsX0_unpaid) := ggX2_left_X0_unpaid
theorem dX2_left_0 : decode cX2_left 0 = .ok (.aload_n 0, 1) := by decide +kernel
theorem dX2_left_1 : decode cX2_left 1 = .ok (.iload_n 1, 1) := by decide +kernel
theorem dX2_left_2 : decode cX2_left 2 = .ok (.invokevirtual 101, 3) := by decide +kernel
theorem dX2_left_5 : decode cX2_left 5 = .ok (.astore_n 2, 1) := by decide +kernel
theorem dX2_left_6 : decode cX2_left 6 = .ok (.aload_n 2, 1) := by decide +kernel
theorem dX2_left_7 : decode cX2_left 7 = .ok (.ifnonnull 13, 3) := by decide +kernel
theorem dX2_left_10 : decode cX2_left 10 = .ok (.new 59, 3) := by decide +kernel
theorem dX2_left_13 : decode cX2_left 13 = .ok (.dup, 1) := by decide +kernel
theorem dX2_left_14 : decode cX2_left 14 = .ok (.ldc 105, 2) := by decide +kernel
theorem dX2_left_16 : decode cX2_left 16 = .ok (.invokespecial 63, 3) := by decide +kernel
theorem dX2_left_19 : decode cX2_left 19 = .ok (.athrow, 1) := by decide +kernel
theorem dX2_left_20 : decode cX2_left 20 = .ok (.aload_n 2, 1) := by decide +kernel
theorem dX2_left_21 : decode cX2_left 21 = .ok (.invokevirtual 107, 3) := by decide +kernel
theorem dX2_left_24 : decode cX2_left 24 = .ok (.ireturn, 1) := by decide +kernel
set_option maxRecDepth 20000 in
theorem ggX2_bears_X2_findLoan : GoodIn wsX2_bears wsX2_findLoan := goodIn_r _ [9, 10, 39, 40, 41, 42, 43, 44, 45, 46, 47, 48, 49, 50, 51] (by decide +kernel) (by decide +kernel)
set_option maxRecDepth 20000 in
theorem gX2_bears_X2_findLoan : GoodIn wsX2_bears (wsV RX2 101 RX2 yX2_findLoan wsX2_findLoan) := goodIn_app (goodIn_of _ (by decide +kernel)) ggX2_bears_X2_findLoan
set_option maxRecDepth 20000 in
theorem ggX2_bears_X0_customerInterest : GoodIn wsX2_bears wsX0_customerInterest := goodIn_r _ [14, 15, 16, 17, 18, 12, 19, 20, 21, 22, 8, 23, 24, 52, 53, 54, 55, 56, 57, 58, 59] (by decide +kernel) (by decide +kernel)
set_option maxRecDepth 20000 in
theorem gX2_bears_X0_customerInterest_n149 : GoodIn wsX2_bears (wsX0_customerInterest) := ggX2_bears_X0_customerInterest
set_option maxRecDepth 20000 in
theorem ggX2_bears_X0_funding : GoodIn wsX2_bears wsX0_funding := goodIn_r _ [27, 20, 21, 28, 22, 8, 23, 24, 52, 53, 54, 55, 56, 57, 58, 59] (by decide +kernel) (by decide +kernel)
set_option maxRecDepth 20000 in
theorem gX2_bears_X0_funding_n152 : GoodIn wsX2_bears (wsX0_funding) := ggX2_bears_X0_funding
set_option maxRecDepth 20000 in
theorem ggX2_bears_X0_optionCharge : GoodIn wsX2_bears wsX0_optionCharge := goodIn_r _ [31, 32, 16, 17, 18, 12, 19, 20, 21, 22, 8, 23, 24, 52, 53, 54, 55, 56, 57, 58, 59] (by decide +kernel) (by decide +kernel)
set_option maxRecDepth 20000 in
theorem gX2_bears_X0_optionCharge_n155 : GoodIn wsX2_bears (wsX0_optionCharge) := ggX2_bears_X0_optionCharge
set_option maxRecDepth 20000 in
theorem ggX2_bears_X0_ownMargin : GoodIn wsX2_bears wsX0_ownMargin := goodIn_r _ [35, 36, 11, 13, 12, 14, 15, 16, 17, 18, 19, 20, 21, 22, 8, 23, 24, 37, 25, 26, 27, 28, 38, 29, 30, 31, 32, 52, 53, 54, 55, 56, 57, 58, 59] (by decide +kernel) (by decide +kernel)
set_option maxRecDepth 20000 in
theorem gX2_bears_X0_ownMargin_n158 : GoodIn wsX2_bears (wsX0_ownMargin) := ggX2_bears_X0_ownMargin
theorem dX2_bears_0 : decode cX2_bears 0 = .ok (.aload_n 0, 1) := by decide +kernel
theorem dX2_bears_1 : decode cX2_bears 1 = .ok (.iload_n 1, 1) := by decide +kernel
theorem dX2_bears_2 : decode cX2_bears 2 = .ok (.invokevirtual 101, 3) := by decide +kernel
theorem dX2_bears_5 : decode cX2_bears 5 = .ok (.astore_n 3, 1) := by decide +kernel
theorem dX2_bears_6 : decode cX2_bears 6 = .ok (.aload_n 3, 1) := by decide +kernel
theorem dX2_bears_7 : decode cX2_bears 7 = .ok (.ifnonnull 13, 3) := by decide +kernel
theorem dX2_bears_10 : decode cX2_bears 10 = .ok (.new 59, 3) := by decide +kernel
theorem dX2_bears_13 : decode cX2_bears 13 = .ok (.dup, 1) := by decide +kernel
theorem dX2_bears_14 : decode cX2_bears 14 = .ok (.ldc 105, 2) := by decide +kernel
theorem dX2_bears_16 : decode cX2_bears 16 = .ok (.invokespecial 63, 3) := by decide +kernel
theorem dX2_bears_19 : decode cX2_bears 19 = .ok (.athrow, 1) := by decide +kernel
theorem dX2_bears_20 : decode cX2_bears 20 = .ok (.iload_n 2, 1) := by decide +kernel
theorem dX2_bears_21 : decode cX2_bears 21 = .ok (.tableswitch 51 0 3 #[31, 36, 41, 46], 31) := by decide +kernel
theorem dX2_bears_52 : decode cX2_bears 52 = .ok (.aload_n 3, 1) := by decide +kernel
theorem dX2_bears_53 : decode cX2_bears 53 = .ok (.invokevirtual 149, 3) := by decide +kernel
theorem dX2_bears_56 : decode cX2_bears 56 = .ok (.ireturn, 1) := by decide +kernel
theorem dX2_bears_57 : decode cX2_bears 57 = .ok (.aload_n 3, 1) := by decide +kernel
theorem dX2_bears_58 : decode cX2_bears 58 = .ok (.invokevirtual 152, 3) := by decide +kernel
theorem dX2_bears_61 : decode cX2_bears 61 = .ok (.ireturn, 1) := by decide +kernel
theorem dX2_bears_62 : decode cX2_bears 62 = .ok (.aload_n 3, 1) := by decide +kernel
theorem dX2_bears_63 : decode cX2_bears 63 = .ok (.invokevirtual 155, 3) := by decide +kernel
theorem dX2_bears_66 : decode cX2_bears 66 = .ok (.ireturn, 1) := by decide +kernel
theorem dX2_bears_67 : decode cX2_bears 67 = .ok (.aload_n 3, 1) := by decide +kernel
theorem dX2_bears_68 : decode cX2_bears 68 = .ok (.invokevirtual 158, 3) := by decide +kernel
theorem dX2_bears_71 : decode cX2_bears 71 = .ok (.ireturn, 1) := by decide +kernel
theorem dX2_bears_72 : decode cX2_bears 72 = .ok (.new 66, 3) := by decide +kernel
theorem dX2_bears_75 : decode cX2_bears 75 = .ok (.dup, 1) := by decide +kernel
theorem dX2_bears_76 : decode cX2_bears 76 = .ok (.ldc 161, 2) := by decide +kernel
theorem dX2_bears_78 : decode cX2_bears 78 = .ok (.invokespecial 70, 3) := by decide +kernel
theorem dX2_bears_81 : decode cX2_bears 81 = .ok (.athrow, 1) := by decide +kernel
set_option maxRecDepth 20000 in
theorem ggX2_due_X0_partAhead : GoodIn wsX2_due wsX0_partAhead := goodIn_r _ [7, 8, 9, 23, 24, 25, 26, 27, 28, 29, 30] (by decide +kernel) (by decide +kernel)
set_option maxRecDepth 20000 in
theorem gX2_due_X0_partAhead_n165 : GoodIn wsX2_due (wsX0_partAhead) := ggX2_due_X0_partAhead
theorem dX2_due_0 : decode cX2_due 0 = .ok (.iload_n 1, 1) := by decide +kernel
theorem dX2_due_1 : decode cX2_due 1 = .ok (.ifCond .lt 9, 3) := by decide +kernel
theorem dX2_due_4 : decode cX2_due 4 = .ok (.iload_n 1, 1) := by decide +kernel
theorem dX2_due_5 : decode cX2_due 5 = .ok (.bipush 6, 2) := by decide +kernel
theorem dX2_due_7 : decode cX2_due 7 = .ok (.if_icmp .lt 13, 3) := by decide +kernel
theorem dX2_due_10 : decode cX2_due 10 = .ok (.new 66, 3) := by decide +kernel
theorem dX2_due_13 : decode cX2_due 13 = .ok (.dup, 1) := by decide +kernel
theorem dX2_due_14 : decode cX2_due 14 = .ok (.ldc 163, 2) := by decide +kernel
theorem dX2_due_16 : decode cX2_due 16 = .ok (.invokespecial 70, 3) := by decide +kernel
theorem dX2_due_19 : decode cX2_due 19 = .ok (.athrow, 1) := by decide +kernel
theorem dX2_due_20 : decode cX2_due 20 = .ok (.iconst 0, 1) := by decide +kernel
theorem dX2_due_21 : decode cX2_due 21 = .ok (.istore_n 2, 1) := by decide +kernel
theorem dX2_due_22 : decode cX2_due 22 = .ok (.aload_n 0, 1) := by decide +kernel
theorem dX2_due_23 : decode cX2_due 23 = .ok (.getfield 28, 3) := by decide +kernel
theorem dX2_due_26 : decode cX2_due 26 = .ok (.astore_n 3, 1) := by decide +kernel
theorem dX2_due_27 : decode cX2_due 27 = .ok (.aload_n 3, 1) := by decide +kernel
theorem dX2_due_28 : decode cX2_due 28 = .ok (.arraylength, 1) := by decide +kernel
theorem dX2_due_29 : decode cX2_due 29 = .ok (.istore 4, 2) := by decide +kernel
theorem dX2_due_31 : decode cX2_due 31 = .ok (.iconst 0, 1) := by decide +kernel
theorem dX2_due_32 : decode cX2_due 32 = .ok (.istore 5, 2) := by decide +kernel
theorem dX2_due_34 : decode cX2_due 34 = .ok (.iload 5, 2) := by decide +kernel
theorem dX2_due_36 : decode cX2_due 36 = .ok (.iload 4, 2) := by decide +kernel
theorem dX2_due_38 : decode cX2_due 38 = .ok (.if_icmp .ge 29, 3) := by decide +kernel
theorem dX2_due_41 : decode cX2_due 41 = .ok (.aload_n 3, 1) := by decide +kernel
theorem dX2_due_42 : decode cX2_due 42 = .ok (.iload 5, 2) := by decide +kernel
theorem dX2_due_44 : decode cX2_due 44 = .ok (.aaload, 1) := by decide +kernel
theorem dX2_due_45 : decode cX2_due 45 = .ok (.astore 6, 2) := by decide +kernel
theorem dX2_due_47 : decode cX2_due 47 = .ok (.aload 6, 2) := by decide +kernel
theorem dX2_due_49 : decode cX2_due 49 = .ok (.ifnull 12, 3) := by decide +kernel
theorem dX2_due_52 : decode cX2_due 52 = .ok (.iload_n 2, 1) := by decide +kernel
theorem dX2_due_53 : decode cX2_due 53 = .ok (.aload 6, 2) := by decide +kernel
theorem dX2_due_55 : decode cX2_due 55 = .ok (.iload_n 1, 1) := by decide +kernel
theorem dX2_due_56 : decode cX2_due 56 = .ok (.invokevirtual 165, 3) := by decide +kernel
theorem dX2_due_59 : decode cX2_due 59 = .ok (.iadd, 1) := by decide +kernel
theorem dX2_due_60 : decode cX2_due 60 = .ok (.istore_n 2, 1) := by decide +kernel
theorem dX2_due_61 : decode cX2_due 61 = .ok (.iinc 5 1, 3) := by decide +kernel
theorem dX2_due_64 : decode cX2_due 64 = .ok (.goto (-30), 3) := by decide +kernel
theorem dX2_due_67 : decode cX2_due 67 = .ok (.iload_n 2, 1) := by decide +kernel
theorem dX2_due_68 : decode cX2_due 68 = .ok (.ireturn, 1) := by decide +kernel
theorem dX2_balance_0 : decode cX2_balance 0 = .ok (.iload_n 1, 1) := by decide +kernel
theorem dX2_balance_1 : decode cX2_balance 1 = .ok (.ifCond .lt 8, 3) := by decide +kernel
theorem dX2_balance_4 : decode cX2_balance 4 = .ok (.iload_n 1, 1) := by decide +kernel
theorem dX2_balance_5 : decode cX2_balance 5 = .ok (.iconst 3, 1) := by decide +kernel
theorem dX2_balance_6 : decode cX2_balance 6 = .ok (.if_icmp .lt 13, 3) := by decide +kernel
theorem dX2_balance_9 : decode cX2_balance 9 = .ok (.new 59, 3) := by decide +kernel
theorem dX2_balance_12 : decode cX2_balance 12 = .ok (.dup, 1) := by decide +kernel
theorem dX2_balance_13 : decode cX2_balance 13 = .ok (.ldc 120, 2) := by decide +kernel
theorem dX2_balance_15 : decode cX2_balance 15 = .ok (.invokespecial 63, 3) := by decide +kernel
theorem dX2_balance_18 : decode cX2_balance 18 = .ok (.athrow, 1) := by decide +kernel
theorem dX2_balance_19 : decode cX2_balance 19 = .ok (.aload_n 0, 1) := by decide +kernel
theorem dX2_balance_20 : decode cX2_balance 20 = .ok (.getfield 35, 3) := by decide +kernel
theorem dX2_balance_23 : decode cX2_balance 23 = .ok (.iload_n 1, 1) := by decide +kernel
theorem dX2_balance_24 : decode cX2_balance 24 = .ok (.iaload, 1) := by decide +kernel
theorem dX2_balance_25 : decode cX2_balance 25 = .ok (.ireturn, 1) := by decide +kernel
theorem dX2_tranche_0 : decode cX2_tranche 0 = .ok (.iload_n 1, 1) := by decide +kernel
theorem dX2_tranche_1 : decode cX2_tranche 1 = .ok (.ifCond .lt 9, 3) := by decide +kernel
theorem dX2_tranche_4 : decode cX2_tranche 4 = .ok (.iload_n 1, 1) := by decide +kernel
theorem dX2_tranche_5 : decode cX2_tranche 5 = .ok (.bipush 6, 2) := by decide +kernel
theorem dX2_tranche_7 : decode cX2_tranche 7 = .ok (.if_icmp .lt 13, 3) := by decide +kernel
theorem dX2_tranche_10 : decode cX2_tranche 10 = .ok (.new 59, 3) := by decide +kernel
theorem dX2_tranche_13 : decode cX2_tranche 13 = .ok (.dup, 1) := by decide +kernel
theorem dX2_tranche_14 : decode cX2_tranche 14 = .ok (.ldc 169, 2) := by decide +kernel
theorem dX2_tranche_16 : decode cX2_tranche 16 = .ok (.invokespecial 63, 3) := by decide +kernel
theorem dX2_tranche_19 : decode cX2_tranche 19 = .ok (.athrow, 1) := by decide +kernel
theorem dX2_tranche_20 : decode cX2_tranche 20 = .ok (.aload_n 0, 1) := by decide +kernel
theorem dX2_tranche_21 : decode cX2_tranche 21 = .ok (.getfield 41, 3) := by decide +kernel
theorem dX2_tranche_24 : decode cX2_tranche 24 = .ok (.getfield 171, 3) := by decide +kernel
theorem dX2_tranche_27 : decode cX2_tranche 27 = .ok (.iload_n 1, 1) := by decide +kernel
theorem dX2_tranche_28 : decode cX2_tranche 28 = .ok (.iaload, 1) := by decide +kernel
theorem dX2_tranche_29 : decode cX2_tranche 29 = .ok (.ireturn, 1) := by decide +kernel
set_option maxRecDepth 20000 in
theorem ggX2_replicaRate_X1_averageRate : GoodIn wsX2_replicaRate wsX1_averageRate := goodIn_r _ [5, 6, 7, 21, 22] (by decide +kernel) (by decide +kernel)
set_option maxRecDepth 20000 in
theorem gX2_replicaRate_X1_averageRate_n174 : GoodIn wsX2_replicaRate (wsX1_averageRate) := ggX2_replicaRate_X1_averageRate
theorem dX2_replicaRate_0 : decode cX2_replicaRate 0 = .ok (.aload_n 0, 1) := by decide +kernel
theorem dX2_replicaRate_1 : decode cX2_replicaRate 1 = .ok (.getfield 41, 3) := by decide +kernel
theorem dX2_replicaRate_4 : decode cX2_replicaRate 4 = .ok (.invokevirtual 174, 3) := by decide +kernel
theorem dX2_replicaRate_7 : decode cX2_replicaRate 7 = .ok (.ireturn, 1) := by decide +kernel
set_option maxRecDepth 20000 in
theorem ggX2_margin_X2_hasEnded : GoodIn wsX2_margin wsX2_hasEnded := goodIn_r _ [8, 9, 10, 11, 12, 13, 14, 15, 16, 17, 18, 19, 20, 21, 22] (by decide +kernel) (by decide +kernel)
set_option maxRecDepth 20000 in
theorem gX2_margin_X2_hasEnded : GoodIn wsX2_margin (wsV RX2 177 RX2 yX2_hasEnded wsX2_hasEnded) := goodIn_app (goodIn_of _ (by decide +kernel)) ggX2_margin_X2_hasEnded
theorem dX2_margin_0 : decode cX2_margin 0 = .ok (.iload_n 1, 1) := by decide +kernel
theorem dX2_margin_1 : decode cX2_margin 1 = .ok (.ifCond .lt 16, 3) := by decide +kernel
theorem dX2_margin_4 : decode cX2_margin 4 = .ok (.iload_n 1, 1) := by decide +kernel
theorem dX2_margin_5 : decode cX2_margin 5 = .ok (.iconst 3, 1) := by decide +kernel
theorem dX2_margin_6 : decode cX2_margin 6 = .ok (.if_icmp .ge 11, 3) := by decide +kernel
theorem dX2_margin_9 : decode cX2_margin 9 = .ok (.aload_n 0, 1) := by decide +kernel
theorem dX2_margin_10 : decode cX2_margin 10 = .ok (.iload_n 2, 1) := by decide +kernel
theorem dX2_margin_11 : decode cX2_margin 11 = .ok (.invokevirtual 177, 3) := by decide +kernel
theorem dX2_margin_14 : decode cX2_margin 14 = .ok (.ifCond .ne 13, 3) := by decide +kernel
theorem dX2_margin_17 : decode cX2_margin 17 = .ok (.new 59, 3) := by decide +kernel
theorem dX2_margin_20 : decode cX2_margin 20 = .ok (.dup, 1) := by decide +kernel
theorem dX2_margin_21 : decode cX2_margin 21 = .ok (.ldc 181, 2) := by decide +kernel
theorem dX2_margin_23 : decode cX2_margin 23 = .ok (.invokespecial 63, 3) := by decide +kernel
theorem dX2_margin_26 : decode cX2_margin 26 = .ok (.athrow, 1) := by decide +kernel
theorem dX2_margin_27 : decode cX2_margin 27 = .ok (.aload_n 0, 1) := by decide +kernel
theorem dX2_margin_28 : decode cX2_margin 28 = .ok (.getfield 47, 3) := by decide +kernel
theorem dX2_margin_31 : decode cX2_margin 31 = .ok (.iload_n 1, 1) := by decide +kernel
theorem dX2_margin_32 : decode cX2_margin 32 = .ok (.aaload, 1) := by decide +kernel
theorem dX2_margin_33 : decode cX2_margin 33 = .ok (.iload_n 2, 1) := by decide +kernel
theorem dX2_margin_34 : decode cX2_margin 34 = .ok (.iaload, 1) := by decide +kernel
theorem dX2_margin_35 : decode cX2_margin 35 = .ok (.ireturn, 1) := by decide +kernel
set_option maxRecDepth 20000 in
theorem ggX2_byProduct_X2_hasEnded : GoodIn wsX2_byProduct wsX2_hasEnded := goodIn_r _ [8, 9, 10, 11, 12, 13, 14, 15, 16, 17, 18, 19, 20, 21, 22] (by decide +kernel) (by decide +kernel)
set_option maxRecDepth 20000 in
theorem gX2_byProduct_X2_hasEnded : GoodIn wsX2_byProduct (wsV RX2 177 RX2 yX2_hasEnded wsX2_hasEnded) := goodIn_app (goodIn_of _ (by decide +kernel)) ggX2_byProduct_X2_hasEnded
theorem dX2_byProduct_0 : decode cX2_byProduct 0 = .ok (.iload_n 1, 1) := by decide +kernel
theorem dX2_byProduct_1 : decode cX2_byProduct 1 = .ok (.ifCond .lt 16, 3) := by decide +kernel
theorem dX2_byProduct_4 : decode cX2_byProduct 4 = .ok (.iload_n 1, 1) := by decide +kernel
theorem dX2_byProduct_5 : decode cX2_byProduct 5 = .ok (.iconst 3, 1) := by decide +kernel
theorem dX2_byProduct_6 : decode cX2_byProduct 6 = .ok (.if_icmp .ge 11, 3) := by decide +kernel
theorem dX2_byProduct_9 : decode cX2_byProduct 9 = .ok (.aload_n 0, 1) := by decide +kernel
theorem dX2_byProduct_10 : decode cX2_byProduct 10 = .ok (.iload_n 2, 1) := by decide +kernel
theorem dX2_byProduct_11 : decode cX2_byProduct 11 = .ok (.invokevirtual 177, 3) := by decide +kernel
theorem dX2_byProduct_14 : decode cX2_byProduct 14 = .ok (.ifCond .ne 13, 3) := by decide +kernel
theorem dX2_byProduct_17 : decode cX2_byProduct 17 = .ok (.new 59, 3) := by decide +kernel
theorem dX2_byProduct_20 : decode cX2_byProduct 20 = .ok (.dup, 1) := by decide +kernel
theorem dX2_byProduct_21 : decode cX2_byProduct 21 = .ok (.ldc 183, 2) := by decide +kernel
theorem dX2_byProduct_23 : decode cX2_byProduct 23 = .ok (.invokespecial 63, 3) := by decide +kernel
theorem dX2_byProduct_26 : decode cX2_byProduct 26 = .ok (.athrow, 1) := by decide +kernel
theorem dX2_byProduct_27 : decode cX2_byProduct 27 = .ok (.aload_n 0, 1) := by decide +kernel
theorem dX2_byProduct_28 : decode cX2_byProduct 28 = .ok (.getfield 50, 3) := by decide +kernel
theorem dX2_byProduct_31 : decode cX2_byProduct 31 = .ok (.iload_n 1, 1) := by decide +kernel
theorem dX2_byProduct_32 : decode cX2_byProduct 32 = .ok (.aaload, 1) := by decide +kernel
theorem dX2_byProduct_33 : decode cX2_byProduct 33 = .ok (.iload_n 2, 1) := by decide +kernel
theorem dX2_byProduct_34 : decode cX2_byProduct 34 = .ok (.iaload, 1) := by decide +kernel
theorem dX2_byProduct_35 : decode cX2_byProduct 35 = .ok (.ireturn, 1) := by decide +kernel
set_option maxRecDepth 20000 in
theorem ggX2_treasury_X2_hasEnded : GoodIn wsX2_treasury wsX2_hasEnded := goodIn_r _ [8, 9, 10, 11, 12, 13, 14, 15, 16, 17, 18, 19, 20, 21, 22] (by decide +kernel) (by decide +kernel)
set_option maxRecDepth 20000 in
theorem gX2_treasury_X2_hasEnded : GoodIn wsX2_treasury (wsV RX2 177 RX2 yX2_hasEnded wsX2_hasEnded) := goodIn_app (goodIn_of _ (by decide +kernel)) ggX2_treasury_X2_hasEnded
theorem dX2_treasury_0 : decode cX2_treasury 0 = .ok (.aload_n 0, 1) := by decide +kernel
theorem dX2_treasury_1 : decode cX2_treasury 1 = .ok (.iload_n 1, 1) := by decide +kernel
theorem dX2_treasury_2 : decode cX2_treasury 2 = .ok (.invokevirtual 177, 3) := by decide +kernel
theorem dX2_treasury_5 : decode cX2_treasury 5 = .ok (.ifCond .ne 13, 3) := by decide +kernel
theorem dX2_treasury_8 : decode cX2_treasury 8 = .ok (.new 59, 3) := by decide +kernel
theorem dX2_treasury_11 : decode cX2_treasury 11 = .ok (.dup, 1) := by decide +kernel
theorem dX2_treasury_12 : decode cX2_treasury 12 = .ok (.ldc 185, 2) := by decide +kernel
theorem dX2_treasury_14 : decode cX2_treasury 14 = .ok (.invokespecial 63, 3) := by decide +kernel
theorem dX2_treasury_17 : decode cX2_treasury 17 = .ok (.athrow, 1) := by decide +kernel
theorem dX2_treasury_18 : decode cX2_treasury 18 = .ok (.aload_n 0, 1) := by decide +kernel
theorem dX2_treasury_19 : decode cX2_treasury 19 = .ok (.getfield 53, 3) := by decide +kernel
theorem dX2_treasury_22 : decode cX2_treasury 22 = .ok (.iload_n 1, 1) := by decide +kernel
theorem dX2_treasury_23 : decode cX2_treasury 23 = .ok (.iaload, 1) := by decide +kernel
theorem dX2_treasury_24 : decode cX2_treasury 24 = .ok (.ireturn, 1) := by decide +kernel
set_option maxRecDepth 20000 in
theorem ggX2_interest_X2_hasEnded : GoodIn wsX2_interest wsX2_hasEnded := goodIn_r _ [8, 9, 10, 11, 12, 13, 14, 15, 16, 17, 18, 19, 20, 21, 22] (by decide +kernel) (by decide +kernel)
set_option maxRecDepth 20000 in
theorem gX2_interest_X2_hasEnded : GoodIn wsX2_interest (wsV RX2 177 RX2 yX2_hasEnded wsX2_hasEnded) := goodIn_app (goodIn_of _ (by decide +kernel)) ggX2_interest_X2_hasEnded
theorem dX2_interest_0 : decode cX2_interest 0 = .ok (.aload_n 0, 1) := by decide +kernel
theorem dX2_interest_1 : decode cX2_interest 1 = .ok (.iload_n 1, 1) := by decide +kernel
theorem dX2_interest_2 : decode cX2_interest 2 = .ok (.invokevirtual 177, 3) := by decide +kernel
theorem dX2_interest_5 : decode cX2_interest 5 = .ok (.ifCond .ne 13, 3) := by decide +kernel
theorem dX2_interest_8 : decode cX2_interest 8 = .ok (.new 59, 3) := by decide +kernel
theorem dX2_interest_11 : decode cX2_interest 11 = .ok (.dup, 1) := by decide +kernel
theorem dX2_interest_12 : decode cX2_interest 12 = .ok (.ldc 185, 2) := by decide +kernel
theorem dX2_interest_14 : decode cX2_interest 14 = .ok (.invokespecial 63, 3) := by decide +kernel
theorem dX2_interest_17 : decode cX2_interest 17 = .ok (.athrow, 1) := by decide +kernel
theorem dX2_interest_18 : decode cX2_interest 18 = .ok (.aload_n 0, 1) := by decide +kernel
theorem dX2_interest_19 : decode cX2_interest 19 = .ok (.getfield 56, 3) := by decide +kernel
theorem dX2_interest_22 : decode cX2_interest 22 = .ok (.iload_n 1, 1) := by decide +kernel
theorem dX2_interest_23 : decode cX2_interest 23 = .ok (.iaload, 1) := by decide +kernel
theorem dX2_interest_24 : decode cX2_interest 24 = .ok (.ireturn, 1) := by decide +kernel
theorem dX2_hasEnded_0 : decode cX2_hasEnded 0 = .ok (.iload_n 1, 1) := by decide +kernel
theorem dX2_hasEnded_1 : decode cX2_hasEnded 1 = .ok (.ifCond .lt 15, 3) := by decide +kernel
theorem dX2_hasEnded_4 : decode cX2_hasEnded 4 = .ok (.iload_n 1, 1) := by decide +kernel
theorem dX2_hasEnded_5 : decode cX2_hasEnded 5 = .ok (.aload_n 0, 1) := by decide +kernel
theorem dX2_hasEnded_6 : decode cX2_hasEnded 6 = .ok (.getfield 23, 3) := by decide +kernel
theorem dX2_hasEnded_9 : decode cX2_hasEnded 9 = .ok (.if_icmp .ge 7, 3) := by decide +kernel
theorem dX2_hasEnded_12 : decode cX2_hasEnded 12 = .ok (.iconst 1, 1) := by decide +kernel
theorem dX2_hasEnded_13 : decode cX2_hasEnded 13 = .ok (.goto 4, 3) := by decide +kernel
theorem dX2_hasEnded_16 : decode cX2_hasEnded 16 = .ok (.iconst 0, 1) := by decide +kernel
theorem dX2_hasEnded_17 : decode cX2_hasEnded 17 = .ok (.ireturn, 1) := by decide +kernel
theorem dX2_findLoan_0 : decode cX2_findLoan 0 = .ok (.iload_n 1, 1) := by decide +kernel
theorem dX2_findLoan_1 : decode cX2_findLoan 1 = .ok (.ifCond .lt 9, 3) := by decide +kernel
theorem dX2_findLoan_4 : decode cX2_findLoan 4 = .ok (.iload_n 1, 1) := by decide +kernel
theorem dX2_findLoan_5 : decode cX2_findLoan 5 = .ok (.bipush 24, 2) := by decide +kernel
theorem dX2_findLoan_7 : decode cX2_findLoan 7 = .ok (.if_icmp .lt 7, 3) := by decide +kernel
theorem dX2_findLoan_10 : decode cX2_findLoan 10 = .ok (.aconst_null, 1) := by decide +kernel
theorem dX2_findLoan_11 : decode cX2_findLoan 11 = .ok (.goto 9, 3) := by decide +kernel
theorem dX2_findLoan_14 : decode cX2_findLoan 14 = .ok (.aload_n 0, 1) := by decide +kernel
theorem dX2_findLoan_15 : decode cX2_findLoan 15 = .ok (.getfield 28, 3) := by decide +kernel
theorem dX2_findLoan_18 : decode cX2_findLoan 18 = .ok (.iload_n 1, 1) := by decide +kernel
theorem dX2_findLoan_19 : decode cX2_findLoan 19 = .ok (.aaload, 1) := by decide +kernel
theorem dX2_findLoan_20 : decode cX2_findLoan 20 = .ok (.areturn, 1) := by decide +kernel
theorem dX2_cutIntoParts_0 : decode cX2_cutIntoParts 0 = .ok (.bipush 6, 2) := by decide +kernel
theorem dX2_cutIntoParts_2 : decode cX2_cutIntoParts 2 = .ok (.newarray .int, 2) := by decide +kernel
theorem dX2_cutIntoParts_4 : decode cX2_cutIntoParts 4 = .ok (.astore_n 3, 1) := by decide +kernel
theorem dX2_cutIntoParts_5 : decode cX2_cutIntoParts 5 = .ok (.iconst 0, 1) := by decide +kernel
theorem dX2_cutIntoParts_6 : decode cX2_cutIntoParts 6 = .ok (.istore 4, 2) := by decide +kernel
theorem dX2_cutIntoParts_8 : decode cX2_cutIntoParts 8 = .ok (.iload 4, 2) := by decide +kernel
theorem dX2_cutIntoParts_10 : decode cX2_cutIntoParts 10 = .ok (.bipush 6, 2) := by decide +kernel
theorem dX2_cutIntoParts_12 : decode cX2_cutIntoParts 12 = .ok (.if_icmp .ge 44, 3) := by decide +kernel
theorem dX2_cutIntoParts_15 : decode cX2_cutIntoParts 15 = .ok (.iload 4, 2) := by decide +kernel
theorem dX2_cutIntoParts_17 : decode cX2_cutIntoParts 17 = .ok (.iload_n 2, 1) := by decide +kernel
theorem dX2_cutIntoParts_18 : decode cX2_cutIntoParts 18 = .ok (.iconst 1, 1) := by decide +kernel
theorem dX2_cutIntoParts_19 : decode cX2_cutIntoParts 19 = .ok (.isub, 1) := by decide +kernel
theorem dX2_cutIntoParts_20 : decode cX2_cutIntoParts 20 = .ok (.if_icmp .ge 11, 3) := by decide +kernel
theorem dX2_cutIntoParts_23 : decode cX2_cutIntoParts 23 = .ok (.aload_n 3, 1) := by decide +kernel
theorem dX2_cutIntoParts_24 : decode cX2_cutIntoParts 24 = .ok (.iload 4, 2) := by decide +kernel
theorem dX2_cutIntoParts_26 : decode cX2_cutIntoParts 26 = .ok (.iload_n 1, 1) := by decide +kernel
theorem dX2_cutIntoParts_27 : decode cX2_cutIntoParts 27 = .ok (.iastore, 1) := by decide +kernel
theorem dX2_cutIntoParts_28 : decode cX2_cutIntoParts 28 = .ok (.goto 22, 3) := by decide +kernel
theorem dX2_cutIntoParts_31 : decode cX2_cutIntoParts 31 = .ok (.iload 4, 2) := by decide +kernel
theorem dX2_cutIntoParts_33 : decode cX2_cutIntoParts 33 = .ok (.iload_n 2, 1) := by decide +kernel
theorem dX2_cutIntoParts_34 : decode cX2_cutIntoParts 34 = .ok (.iconst 1, 1) := by decide +kernel
theorem dX2_cutIntoParts_35 : decode cX2_cutIntoParts 35 = .ok (.isub, 1) := by decide +kernel
theorem dX2_cutIntoParts_36 : decode cX2_cutIntoParts 36 = .ok (.if_icmp .ne 14, 3) := by decide +kernel
theorem dX2_cutIntoParts_39 : decode cX2_cutIntoParts 39 = .ok (.aload_n 3, 1) := by decide +kernel
theorem dX2_cutIntoParts_40 : decode cX2_cutIntoParts 40 = .ok (.iload 4, 2) := by decide +kernel
theorem dX2_cutIntoParts_42 : decode cX2_cutIntoParts 42 = .ok (.iload_n 0, 1) := by decide +kernel
theorem dX2_cutIntoParts_43 : decode cX2_cutIntoParts 43 = .ok (.iload_n 1, 1) := by decide +kernel
theorem dX2_cutIntoParts_44 : decode cX2_cutIntoParts 44 = .ok (.iload_n 2, 1) := by decide +kernel
theorem dX2_cutIntoParts_45 : decode cX2_cutIntoParts 45 = .ok (.iconst 1, 1) := by decide +kernel
theorem dX2_cutIntoParts_46 : decode cX2_cutIntoParts 46 = .ok (.isub, 1) := by decide +kernel
theorem dX2_cutIntoParts_47 : decode cX2_cutIntoParts 47 = .ok (.imul, 1) := by decide +kernel
theorem dX2_cutIntoParts_48 : decode cX2_cutIntoParts 48 = .ok (.isub, 1) := by decide +kernel
theorem dX2_cutIntoParts_49 : decode cX2_cutIntoParts 49 = .ok (.iastore, 1) := by decide +kernel
theorem dX2_cutIntoParts_50 : decode cX2_cutIntoParts 50 = .ok (.iinc 4 1, 3) := by decide +kernel
theorem dX2_cutIntoParts_53 : decode cX2_cutIntoParts 53 = .ok (.goto (-45), 3) := by decide +kernel
theorem dX2_cutIntoParts_56 : decode cX2_cutIntoParts 56 = .ok (.aload_n 3, 1) := by decide +kernel
theorem dX2_cutIntoParts_57 : decode cX2_cutIntoParts 57 = .ok (.areturn, 1) := by decide +kernel
theorem dX2_forOneMonth_0 : decode cX2_forOneMonth 0 = .ok (.lload_n 0, 1) := by decide +kernel
theorem dX2_forOneMonth_1 : decode cX2_forOneMonth 1 = .ok (.ldc2_w 187, 3) := by decide +kernel
theorem dX2_forOneMonth_4 : decode cX2_forOneMonth 4 = .ok (.ldiv, 1) := by decide +kernel
theorem dX2_forOneMonth_5 : decode cX2_forOneMonth 5 = .ok (.l2i, 1) := by decide +kernel
theorem dX2_forOneMonth_6 : decode cX2_forOneMonth 6 = .ok (.ireturn, 1) := by decide +kernel
theorem dX2_coreOf_0 : decode cX2_coreOf 0 = .ok (.lload_n 1, 1) := by decide +kernel
theorem dX2_coreOf_1 : decode cX2_coreOf 1 = .ok (.aload_n 0, 1) := by decide +kernel
theorem dX2_coreOf_2 : decode cX2_coreOf 2 = .ok (.getfield 20, 3) := by decide +kernel
theorem dX2_coreOf_5 : decode cX2_coreOf 5 = .ok (.i2l, 1) := by decide +kernel
theorem dX2_coreOf_6 : decode cX2_coreOf 6 = .ok (.lmul, 1) := by decide +kernel
theorem dX2_coreOf_7 : decode cX2_coreOf 7 = .ok (.ldc2_w 189, 3) := by decide +kernel
theorem dX2_coreOf_10 : decode cX2_coreOf 10 = .ok (.ldiv, 1) := by decide +kernel
theorem dX2_coreOf_11 : decode cX2_coreOf 11 = .ok (.l2i, 1) := by decide +kernel
theorem dX2_coreOf_12 : decode cX2_coreOf 12 = .ok (.ireturn, 1) := by decide +kernel
set_option maxRecDepth 20000 in
theorem ggX2_trancheAmount_X2_coreOf : GoodIn wsX2_trancheAmount wsX2_coreOf := goodIn_r _ [6, 7, 8, 9, 10, 11, 12, 13, 14, 15, 16, 17, 18, 19, 20, 21] (by decide +kernel) (by decide +kernel)
set_option maxRecDepth 20000 in
theorem gX2_trancheAmount_X2_coreOf : GoodIn wsX2_trancheAmount (wsV RX2 191 RX2 yX2_coreOf wsX2_coreOf) := goodIn_app (goodIn_of _ (by decide +kernel)) ggX2_trancheAmount_X2_coreOf
theorem dX2_trancheAmount_0 : decode cX2_trancheAmount 0 = .ok (.lconst 0, 1) := by decide +kernel
theorem dX2_trancheAmount_1 : decode cX2_trancheAmount 1 = .ok (.lstore_n 1, 1) := by decide +kernel
theorem dX2_trancheAmount_2 : decode cX2_trancheAmount 2 = .ok (.aload_n 0, 1) := by decide +kernel
theorem dX2_trancheAmount_3 : decode cX2_trancheAmount 3 = .ok (.getfield 35, 3) := by decide +kernel
theorem dX2_trancheAmount_6 : decode cX2_trancheAmount 6 = .ok (.astore_n 3, 1) := by decide +kernel
theorem dX2_trancheAmount_7 : decode cX2_trancheAmount 7 = .ok (.aload_n 3, 1) := by decide +kernel
theorem dX2_trancheAmount_8 : decode cX2_trancheAmount 8 = .ok (.arraylength, 1) := by decide +kernel
theorem dX2_trancheAmount_9 : decode cX2_trancheAmount 9 = .ok (.istore 4, 2) := by decide +kernel
theorem dX2_trancheAmount_11 : decode cX2_trancheAmount 11 = .ok (.iconst 0, 1) := by decide +kernel
theorem dX2_trancheAmount_12 : decode cX2_trancheAmount 12 = .ok (.istore 5, 2) := by decide +kernel
theorem dX2_trancheAmount_14 : decode cX2_trancheAmount 14 = .ok (.iload 5, 2) := by decide +kernel
theorem dX2_trancheAmount_16 : decode cX2_trancheAmount 16 = .ok (.iload 4, 2) := by decide +kernel
theorem dX2_trancheAmount_18 : decode cX2_trancheAmount 18 = .ok (.if_icmp .ge 21, 3) := by decide +kernel
theorem dX2_trancheAmount_21 : decode cX2_trancheAmount 21 = .ok (.aload_n 3, 1) := by decide +kernel
theorem dX2_trancheAmount_22 : decode cX2_trancheAmount 22 = .ok (.iload 5, 2) := by decide +kernel
theorem dX2_trancheAmount_24 : decode cX2_trancheAmount 24 = .ok (.iaload, 1) := by decide +kernel
theorem dX2_trancheAmount_25 : decode cX2_trancheAmount 25 = .ok (.istore 6, 2) := by decide +kernel
theorem dX2_trancheAmount_27 : decode cX2_trancheAmount 27 = .ok (.lload_n 1, 1) := by decide +kernel
theorem dX2_trancheAmount_28 : decode cX2_trancheAmount 28 = .ok (.iload 6, 2) := by decide +kernel
theorem dX2_trancheAmount_30 : decode cX2_trancheAmount 30 = .ok (.i2l, 1) := by decide +kernel
theorem dX2_trancheAmount_31 : decode cX2_trancheAmount 31 = .ok (.ladd, 1) := by decide +kernel
theorem dX2_trancheAmount_32 : decode cX2_trancheAmount 32 = .ok (.lstore_n 1, 1) := by decide +kernel
theorem dX2_trancheAmount_33 : decode cX2_trancheAmount 33 = .ok (.iinc 5 1, 3) := by decide +kernel
theorem dX2_trancheAmount_36 : decode cX2_trancheAmount 36 = .ok (.goto (-22), 3) := by decide +kernel
theorem dX2_trancheAmount_39 : decode cX2_trancheAmount 39 = .ok (.aload_n 0, 1) := by decide +kernel
theorem dX2_trancheAmount_40 : decode cX2_trancheAmount 40 = .ok (.lload_n 1, 1) := by decide +kernel
theorem dX2_trancheAmount_41 : decode cX2_trancheAmount 41 = .ok (.invokevirtual 191, 3) := by decide +kernel
theorem dX2_trancheAmount_44 : decode cX2_trancheAmount 44 = .ok (.bipush 6, 2) := by decide +kernel
theorem dX2_trancheAmount_46 : decode cX2_trancheAmount 46 = .ok (.idiv, 1) := by decide +kernel
theorem dX2_trancheAmount_47 : decode cX2_trancheAmount 47 = .ok (.ireturn, 1) := by decide +kernel
set_option maxRecDepth 20000 in
theorem ggX2_reckonLoans_X2_loanMarginsOfBranch : GoodIn wsX2_reckonLoans wsX2_loanMarginsOfBranch := goodIn_r _ [11, 4, 12, 13, 14, 15, 16, 17, 18, 19, 20, 21, 22, 23, 24, 25, 26, 27, 10, 28, 29, 30, 31, 32, 33, 34, 35, 36, 37, 38, 39, 44, 45, 46, 47, 48, 49, 50, 51, 52, 53, 54, 55, 56, 57, 58, 59, 60, 61, 62, 63, 64] (by decide +kernel) (by decide +kernel)
set_option maxRecDepth 20000 in
theorem gX2_reckonLoans_X2_loanMarginsOfBranch : GoodIn wsX2_reckonLoans (wsV RX2 195 RX2 yX2_loanMarginsOfBranch wsX2_loanMarginsOfBranch) := goodIn_app (goodIn_of _ (by decide +kernel)) ggX2_reckonLoans_X2_loanMarginsOfBranch
set_option maxRecDepth 20000 in
theorem ggX2_reckonLoans_X2_loanMarginsOfProduct : GoodIn wsX2_reckonLoans wsX2_loanMarginsOfProduct := goodIn_r _ [43, 4, 12, 13, 14, 15, 16, 17, 18, 19, 20, 21, 22, 23, 24, 25, 26, 27, 10, 28, 29, 30, 31, 32, 33, 34, 35, 36, 37, 38, 39, 44, 45, 46, 47, 48, 49, 50, 51, 52, 53, 54, 55, 56, 57, 58, 59, 60, 61, 62, 63, 64] (by decide +kernel) (by decide +kernel)
set_option maxRecDepth 20000 in
theorem gX2_reckonLoans_X2_loanMarginsOfProduct : GoodIn wsX2_reckonLoans (wsV RX2 198 RX2 yX2_loanMarginsOfProduct wsX2_loanMarginsOfProduct) := goodIn_app (goodIn_of _ (by decide +kernel)) ggX2_reckonLoans_X2_loanMarginsOfProduct
set_option maxRecDepth 20000 in
theorem ggX2_reckonLoans_X0_funding : GoodIn wsX2_reckonLoans wsX0_funding := goodIn_r _ [33, 25, 26, 34, 27, 10, 28, 29, 57, 58, 59, 60, 61, 62, 63, 64] (by decide +kernel) (by decide +kernel)
set_option maxRecDepth 20000 in
theorem gX2_reckonLoans_X0_funding_n152 : GoodIn wsX2_reckonLoans (wsX0_funding) := ggX2_reckonLoans_X0_funding
set_option maxRecDepth 20000 in
theorem ggX2_reckonLoans_X0_optionCharge : GoodIn wsX2_reckonLoans wsX0_optionCharge := goodIn_r _ [38, 39, 21, 22, 23, 13, 24, 25, 26, 27, 10, 28, 29, 57, 58, 59, 60, 61, 62, 63, 64] (by decide +kernel) (by decide +kernel)
set_option maxRecDepth 20000 in
theorem gX2_reckonLoans_X0_optionCharge_n155 : GoodIn wsX2_reckonLoans (wsX0_optionCharge) := ggX2_reckonLoans_X0_optionCharge
set_option maxRecDepth 20000 in
theorem ggX2_reckonLoans_X0_customerInterest : GoodIn wsX2_reckonLoans wsX0_customerInterest := goodIn_r _ [19, 20, 21, 22, 23, 13, 24, 25, 26, 27, 10, 28, 29, 57, 58, 59, 60, 61, 62, 63, 64] (by decide +kernel) (by decide +kernel)
set_option maxRecDepth 20000 in
theorem gX2_reckonLoans_X0_customerInterest_n149 : GoodIn wsX2_reckonLoans (wsX0_customerInterest) := ggX2_reckonLoans_X0_customerInterest
theorem dX2_reckonLoans_0 : decode cX2_reckonLoans 0 = .ok (.iconst 0, 1) := by decide +kernel
theorem dX2_reckonLoans_1 : decode cX2_reckonLoans 1 = .ok (.istore_n 1, 1) := by decide +kernel
theorem dX2_reckonLoans_2 : decode cX2_reckonLoans 2 = .ok (.iload_n 1, 1) := by decide +kernel
theorem dX2_reckonLoans_3 : decode cX2_reckonLoans 3 = .ok (.iconst 3, 1) := by decide +kernel
theorem dX2_reckonLoans_4 : decode cX2_reckonLoans 4 = .ok (.if_icmp .ge 25, 3) := by decide +kernel
theorem dX2_reckonLoans_7 : decode cX2_reckonLoans 7 = .ok (.aload_n 0, 1) := by decide +kernel
theorem dX2_reckonLoans_8 : decode cX2_reckonLoans 8 = .ok (.getfield 47, 3) := by decide +kernel
theorem dX2_reckonLoans_11 : decode cX2_reckonLoans 11 = .ok (.iload_n 1, 1) := by decide +kernel
theorem dX2_reckonLoans_12 : decode cX2_reckonLoans 12 = .ok (.aaload, 1) := by decide +kernel
theorem dX2_reckonLoans_13 : decode cX2_reckonLoans 13 = .ok (.aload_n 0, 1) := by decide +kernel
theorem dX2_reckonLoans_14 : decode cX2_reckonLoans 14 = .ok (.getfield 23, 3) := by decide +kernel
theorem dX2_reckonLoans_17 : decode cX2_reckonLoans 17 = .ok (.aload_n 0, 1) := by decide +kernel
theorem dX2_reckonLoans_18 : decode cX2_reckonLoans 18 = .ok (.iload_n 1, 1) := by decide +kernel
theorem dX2_reckonLoans_19 : decode cX2_reckonLoans 19 = .ok (.invokevirtual 195, 3) := by decide +kernel
theorem dX2_reckonLoans_22 : decode cX2_reckonLoans 22 = .ok (.iastore, 1) := by decide +kernel
theorem dX2_reckonLoans_23 : decode cX2_reckonLoans 23 = .ok (.iinc 1 1, 3) := by decide +kernel
theorem dX2_reckonLoans_26 : decode cX2_reckonLoans 26 = .ok (.goto (-24), 3) := by decide +kernel
theorem dX2_reckonLoans_29 : decode cX2_reckonLoans 29 = .ok (.iconst 0, 1) := by decide +kernel
theorem dX2_reckonLoans_30 : decode cX2_reckonLoans 30 = .ok (.istore_n 1, 1) := by decide +kernel
theorem dX2_reckonLoans_31 : decode cX2_reckonLoans 31 = .ok (.iload_n 1, 1) := by decide +kernel
theorem dX2_reckonLoans_32 : decode cX2_reckonLoans 32 = .ok (.iconst 3, 1) := by decide +kernel
theorem dX2_reckonLoans_33 : decode cX2_reckonLoans 33 = .ok (.if_icmp .ge 25, 3) := by decide +kernel
theorem dX2_reckonLoans_36 : decode cX2_reckonLoans 36 = .ok (.aload_n 0, 1) := by decide +kernel
theorem dX2_reckonLoans_37 : decode cX2_reckonLoans 37 = .ok (.getfield 50, 3) := by decide +kernel
theorem dX2_reckonLoans_40 : decode cX2_reckonLoans 40 = .ok (.iload_n 1, 1) := by decide +kernel
theorem dX2_reckonLoans_41 : decode cX2_reckonLoans 41 = .ok (.aaload, 1) := by decide +kernel
theorem dX2_reckonLoans_42 : decode cX2_reckonLoans 42 = .ok (.aload_n 0, 1) := by decide +kernel
theorem dX2_reckonLoans_43 : decode cX2_reckonLoans 43 = .ok (.getfield 23, 3) := by decide +kernel
theorem dX2_reckonLoans_46 : decode cX2_reckonLoans 46 = .ok (.aload_n 0, 1) := by decide +kernel
theorem dX2_reckonLoans_47 : decode cX2_reckonLoans 47 = .ok (.iload_n 1, 1) := by decide +kernel
theorem dX2_reckonLoans_48 : decode cX2_reckonLoans 48 = .ok (.invokevirtual 198, 3) := by decide +kernel
theorem dX2_reckonLoans_51 : decode cX2_reckonLoans 51 = .ok (.iastore, 1) := by decide +kernel
theorem dX2_reckonLoans_52 : decode cX2_reckonLoans 52 = .ok (.iinc 1 1, 3) := by decide +kernel
theorem dX2_reckonLoans_55 : decode cX2_reckonLoans 55 = .ok (.goto (-24), 3) := by decide +kernel
theorem dX2_reckonLoans_58 : decode cX2_reckonLoans 58 = .ok (.iconst 0, 1) := by decide +kernel
theorem dX2_reckonLoans_59 : decode cX2_reckonLoans 59 = .ok (.istore_n 1, 1) := by decide +kernel
theorem dX2_reckonLoans_60 : decode cX2_reckonLoans 60 = .ok (.iconst 0, 1) := by decide +kernel
theorem dX2_reckonLoans_61 : decode cX2_reckonLoans 61 = .ok (.istore_n 2, 1) := by decide +kernel
theorem dX2_reckonLoans_62 : decode cX2_reckonLoans 62 = .ok (.aload_n 0, 1) := by decide +kernel
theorem dX2_reckonLoans_63 : decode cX2_reckonLoans 63 = .ok (.getfield 28, 3) := by decide +kernel
theorem dX2_reckonLoans_66 : decode cX2_reckonLoans 66 = .ok (.astore_n 3, 1) := by decide +kernel
theorem dX2_reckonLoans_67 : decode cX2_reckonLoans 67 = .ok (.aload_n 3, 1) := by decide +kernel
theorem dX2_reckonLoans_68 : decode cX2_reckonLoans 68 = .ok (.arraylength, 1) := by decide +kernel
theorem dX2_reckonLoans_69 : decode cX2_reckonLoans 69 = .ok (.istore 4, 2) := by decide +kernel
theorem dX2_reckonLoans_71 : decode cX2_reckonLoans 71 = .ok (.iconst 0, 1) := by decide +kernel
theorem dX2_reckonLoans_72 : decode cX2_reckonLoans 72 = .ok (.istore 5, 2) := by decide +kernel
theorem dX2_reckonLoans_74 : decode cX2_reckonLoans 74 = .ok (.iload 5, 2) := by decide +kernel
theorem dX2_reckonLoans_76 : decode cX2_reckonLoans 76 = .ok (.iload 4, 2) := by decide +kernel
theorem dX2_reckonLoans_78 : decode cX2_reckonLoans 78 = .ok (.if_icmp .ge 42, 3) := by decide +kernel
theorem dX2_reckonLoans_81 : decode cX2_reckonLoans 81 = .ok (.aload_n 3, 1) := by decide +kernel
theorem dX2_reckonLoans_82 : decode cX2_reckonLoans 82 = .ok (.iload 5, 2) := by decide +kernel
theorem dX2_reckonLoans_84 : decode cX2_reckonLoans 84 = .ok (.aaload, 1) := by decide +kernel
theorem dX2_reckonLoans_85 : decode cX2_reckonLoans 85 = .ok (.astore 6, 2) := by decide +kernel
theorem dX2_reckonLoans_87 : decode cX2_reckonLoans 87 = .ok (.aload 6, 2) := by decide +kernel
theorem dX2_reckonLoans_89 : decode cX2_reckonLoans 89 = .ok (.ifnull 25, 3) := by decide +kernel
theorem dX2_reckonLoans_92 : decode cX2_reckonLoans 92 = .ok (.iload_n 1, 1) := by decide +kernel
theorem dX2_reckonLoans_93 : decode cX2_reckonLoans 93 = .ok (.aload 6, 2) := by decide +kernel
theorem dX2_reckonLoans_95 : decode cX2_reckonLoans 95 = .ok (.invokevirtual 152, 3) := by decide +kernel
theorem dX2_reckonLoans_98 : decode cX2_reckonLoans 98 = .ok (.aload 6, 2) := by decide +kernel
theorem dX2_reckonLoans_100 : decode cX2_reckonLoans 100 = .ok (.invokevirtual 155, 3) := by decide +kernel
theorem dX2_reckonLoans_103 : decode cX2_reckonLoans 103 = .ok (.iadd, 1) := by decide +kernel
theorem dX2_reckonLoans_104 : decode cX2_reckonLoans 104 = .ok (.iadd, 1) := by decide +kernel
theorem dX2_reckonLoans_105 : decode cX2_reckonLoans 105 = .ok (.istore_n 1, 1) := by decide +kernel
theorem dX2_reckonLoans_106 : decode cX2_reckonLoans 106 = .ok (.iload_n 2, 1) := by decide +kernel
theorem dX2_reckonLoans_107 : decode cX2_reckonLoans 107 = .ok (.aload 6, 2) := by decide +kernel
theorem dX2_reckonLoans_109 : decode cX2_reckonLoans 109 = .ok (.invokevirtual 149, 3) := by decide +kernel
theorem dX2_reckonLoans_112 : decode cX2_reckonLoans 112 = .ok (.iadd, 1) := by decide +kernel
theorem dX2_reckonLoans_113 : decode cX2_reckonLoans 113 = .ok (.istore_n 2, 1) := by decide +kernel
theorem dX2_reckonLoans_114 : decode cX2_reckonLoans 114 = .ok (.iinc 5 1, 3) := by decide +kernel
theorem dX2_reckonLoans_117 : decode cX2_reckonLoans 117 = .ok (.goto (-43), 3) := by decide +kernel
theorem dX2_reckonLoans_120 : decode cX2_reckonLoans 120 = .ok (.aload_n 0, 1) := by decide +kernel
theorem dX2_reckonLoans_121 : decode cX2_reckonLoans 121 = .ok (.getfield 53, 3) := by decide +kernel
theorem dX2_reckonLoans_124 : decode cX2_reckonLoans 124 = .ok (.aload_n 0, 1) := by decide +kernel
theorem dX2_reckonLoans_125 : decode cX2_reckonLoans 125 = .ok (.getfield 23, 3) := by decide +kernel
theorem dX2_reckonLoans_128 : decode cX2_reckonLoans 128 = .ok (.iload_n 1, 1) := by decide +kernel
theorem dX2_reckonLoans_129 : decode cX2_reckonLoans 129 = .ok (.iastore, 1) := by decide +kernel
theorem dX2_reckonLoans_130 : decode cX2_reckonLoans 130 = .ok (.aload_n 0, 1) := by decide +kernel
theorem dX2_reckonLoans_131 : decode cX2_reckonLoans 131 = .ok (.getfield 56, 3) := by decide +kernel
theorem dX2_reckonLoans_134 : decode cX2_reckonLoans 134 = .ok (.aload_n 0, 1) := by decide +kernel
theorem dX2_reckonLoans_135 : decode cX2_reckonLoans 135 = .ok (.getfield 23, 3) := by decide +kernel
theorem dX2_reckonLoans_138 : decode cX2_reckonLoans 138 = .ok (.iload_n 2, 1) := by decide +kernel
theorem dX2_reckonLoans_139 : decode cX2_reckonLoans 139 = .ok (.iastore, 1) := by decide +kernel
theorem dX2_reckonLoans_140 : decode cX2_reckonLoans 140 = .ok (.return_, 1) := by decide +kernel
set_option maxRecDepth 20000 in
theorem ggX2_loanMarginsOfBranch_X0_ownMargin : GoodIn wsX2_loanMarginsOfBranch wsX0_ownMargin := goodIn_r _ [5, 6, 7, 8, 3, 9, 10, 11, 12, 13, 14, 15, 16, 17, 18, 19, 20, 21, 22, 23, 24, 25, 26, 27, 28, 29, 30, 44, 45, 46, 47, 48, 49, 50, 51] (by decide +kernel) (by decide +kernel)
set_option maxRecDepth 20000 in
theorem gX2_loanMarginsOfBranch_X0_ownMargin_n158 : GoodIn wsX2_loanMarginsOfBranch (wsX0_ownMargin) := ggX2_loanMarginsOfBranch_X0_ownMargin
theorem dX2_loanMarginsOfBranch_0 : decode cX2_loanMarginsOfBranch 0 = .ok (.iconst 0, 1) := by decide +kernel
theorem dX2_loanMarginsOfBranch_1 : decode cX2_loanMarginsOfBranch 1 = .ok (.istore_n 2, 1) := by decide +kernel
theorem dX2_loanMarginsOfBranch_2 : decode cX2_loanMarginsOfBranch 2 = .ok (.aload_n 0, 1) := by decide +kernel
theorem dX2_loanMarginsOfBranch_3 : decode cX2_loanMarginsOfBranch 3 = .ok (.getfield 28, 3) := by decide +kernel
theorem dX2_loanMarginsOfBranch_6 : decode cX2_loanMarginsOfBranch 6 = .ok (.astore_n 3, 1) := by decide +kernel
theorem dX2_loanMarginsOfBranch_7 : decode cX2_loanMarginsOfBranch 7 = .ok (.aload_n 3, 1) := by decide +kernel
theorem dX2_loanMarginsOfBranch_8 : decode cX2_loanMarginsOfBranch 8 = .ok (.arraylength, 1) := by decide +kernel
theorem dX2_loanMarginsOfBranch_9 : decode cX2_loanMarginsOfBranch 9 = .ok (.istore 4, 2) := by decide +kernel
theorem dX2_loanMarginsOfBranch_11 : decode cX2_loanMarginsOfBranch 11 = .ok (.iconst 0, 1) := by decide +kernel
theorem dX2_loanMarginsOfBranch_12 : decode cX2_loanMarginsOfBranch 12 = .ok (.istore 5, 2) := by decide +kernel
theorem dX2_loanMarginsOfBranch_14 : decode cX2_loanMarginsOfBranch 14 = .ok (.iload 5, 2) := by decide +kernel
theorem dX2_loanMarginsOfBranch_16 : decode cX2_loanMarginsOfBranch 16 = .ok (.iload 4, 2) := by decide +kernel
theorem dX2_loanMarginsOfBranch_18 : decode cX2_loanMarginsOfBranch 18 = .ok (.if_icmp .ge 37, 3) := by decide +kernel
theorem dX2_loanMarginsOfBranch_21 : decode cX2_loanMarginsOfBranch 21 = .ok (.aload_n 3, 1) := by decide +kernel
theorem dX2_loanMarginsOfBranch_22 : decode cX2_loanMarginsOfBranch 22 = .ok (.iload 5, 2) := by decide +kernel
theorem dX2_loanMarginsOfBranch_24 : decode cX2_loanMarginsOfBranch 24 = .ok (.aaload, 1) := by decide +kernel
theorem dX2_loanMarginsOfBranch_25 : decode cX2_loanMarginsOfBranch 25 = .ok (.astore 6, 2) := by decide +kernel
theorem dX2_loanMarginsOfBranch_27 : decode cX2_loanMarginsOfBranch 27 = .ok (.aload 6, 2) := by decide +kernel
theorem dX2_loanMarginsOfBranch_29 : decode cX2_loanMarginsOfBranch 29 = .ok (.ifnull 20, 3) := by decide +kernel
theorem dX2_loanMarginsOfBranch_32 : decode cX2_loanMarginsOfBranch 32 = .ok (.aload 6, 2) := by decide +kernel
theorem dX2_loanMarginsOfBranch_34 : decode cX2_loanMarginsOfBranch 34 = .ok (.getfield 201, 3) := by decide +kernel
theorem dX2_loanMarginsOfBranch_37 : decode cX2_loanMarginsOfBranch 37 = .ok (.iload_n 1, 1) := by decide +kernel
theorem dX2_loanMarginsOfBranch_38 : decode cX2_loanMarginsOfBranch 38 = .ok (.if_icmp .ne 11, 3) := by decide +kernel
theorem dX2_loanMarginsOfBranch_41 : decode cX2_loanMarginsOfBranch 41 = .ok (.iload_n 2, 1) := by decide +kernel
theorem dX2_loanMarginsOfBranch_42 : decode cX2_loanMarginsOfBranch 42 = .ok (.aload 6, 2) := by decide +kernel
theorem dX2_loanMarginsOfBranch_44 : decode cX2_loanMarginsOfBranch 44 = .ok (.invokevirtual 158, 3) := by decide +kernel
theorem dX2_loanMarginsOfBranch_47 : decode cX2_loanMarginsOfBranch 47 = .ok (.iadd, 1) := by decide +kernel
theorem dX2_loanMarginsOfBranch_48 : decode cX2_loanMarginsOfBranch 48 = .ok (.istore_n 2, 1) := by decide +kernel
theorem dX2_loanMarginsOfBranch_49 : decode cX2_loanMarginsOfBranch 49 = .ok (.iinc 5 1, 3) := by decide +kernel
theorem dX2_loanMarginsOfBranch_52 : decode cX2_loanMarginsOfBranch 52 = .ok (.goto (-38), 3) := by decide +kernel
theorem dX2_loanMarginsOfBranch_55 : decode cX2_loanMarginsOfBranch 55 = .ok (.iload_n 2, 1) := by decide +kernel
theorem dX2_loanMarginsOfBranch_56 : decode cX2_loanMarginsOfBranch 56 = .ok (.ireturn, 1) := by decide +kernel
set_option maxRecDepth 20000 in
theorem ggX2_loanMarginsOfProduct_X0_ownMargin : GoodIn wsX2_loanMarginsOfProduct wsX0_ownMargin := goodIn_r _ [5, 6, 7, 8, 3, 9, 10, 11, 12, 13, 14, 15, 16, 17, 18, 19, 20, 21, 22, 23, 24, 25, 26, 27, 28, 29, 30, 44, 45, 46, 47, 48, 49, 50, 51] (by decide +kernel) (by decide +kernel)
set_option maxRecDepth 20000 in
theorem gX2_loanMarginsOfProduct_X0_ownMargin_n158 : GoodIn wsX2_loanMarginsOfProduct (wsX0_ownMargin) := ggX2_loanMarginsOfProduct_X0_ownMargin
theorem dX2_loanMarginsOfProduct_0 : decode cX2_loanMarginsOfProduct 0 = .ok (.iconst 0, 1) := by decide +kernel
theorem dX2_loanMarginsOfProduct_1 : decode cX2_loanMarginsOfProduct 1 = .ok (.istore_n 2, 1) := by decide +kernel
theorem dX2_loanMarginsOfProduct_2 : decode cX2_loanMarginsOfProduct 2 = .ok (.aload_n 0, 1) := by decide +kernel
theorem dX2_loanMarginsOfProduct_3 : decode cX2_loanMarginsOfProduct 3 = .ok (.getfield 28, 3) := by decide +kernel
theorem dX2_loanMarginsOfProduct_6 : decode cX2_loanMarginsOfProduct 6 = .ok (.astore_n 3, 1) := by decide +kernel
theorem dX2_loanMarginsOfProduct_7 : decode cX2_loanMarginsOfProduct 7 = .ok (.aload_n 3, 1) := by decide +kernel
theorem dX2_loanMarginsOfProduct_8 : decode cX2_loanMarginsOfProduct 8 = .ok (.arraylength, 1) := by decide +kernel
theorem dX2_loanMarginsOfProduct_9 : decode cX2_loanMarginsOfProduct 9 = .ok (.istore 4, 2) := by decide +kernel
theorem dX2_loanMarginsOfProduct_11 : decode cX2_loanMarginsOfProduct 11 = .ok (.iconst 0, 1) := by decide +kernel
theorem dX2_loanMarginsOfProduct_12 : decode cX2_loanMarginsOfProduct 12 = .ok (.istore 5, 2) := by decide +kernel
theorem dX2_loanMarginsOfProduct_14 : decode cX2_loanMarginsOfProduct 14 = .ok (.iload 5, 2) := by decide +kernel
theorem dX2_loanMarginsOfProduct_16 : decode cX2_loanMarginsOfProduct 16 = .ok (.iload 4, 2) := by decide +kernel
theorem dX2_loanMarginsOfProduct_18 : decode cX2_loanMarginsOfProduct 18 = .ok (.if_icmp .ge 37, 3) := by decide +kernel
theorem dX2_loanMarginsOfProduct_21 : decode cX2_loanMarginsOfProduct 21 = .ok (.aload_n 3, 1) := by decide +kernel
theorem dX2_loanMarginsOfProduct_22 : decode cX2_loanMarginsOfProduct 22 = .ok (.iload 5, 2) := by decide +kernel
theorem dX2_loanMarginsOfProduct_24 : decode cX2_loanMarginsOfProduct 24 = .ok (.aaload, 1) := by decide +kernel
theorem dX2_loanMarginsOfProduct_25 : decode cX2_loanMarginsOfProduct 25 = .ok (.astore 6, 2) := by decide +kernel
theorem dX2_loanMarginsOfProduct_27 : decode cX2_loanMarginsOfProduct 27 = .ok (.aload 6, 2) := by decide +kernel
theorem dX2_loanMarginsOfProduct_29 : decode cX2_loanMarginsOfProduct 29 = .ok (.ifnull 20, 3) := by decide +kernel
theorem dX2_loanMarginsOfProduct_32 : decode cX2_loanMarginsOfProduct 32 = .ok (.aload 6, 2) := by decide +kernel
theorem dX2_loanMarginsOfProduct_34 : decode cX2_loanMarginsOfProduct 34 = .ok (.getfield 204, 3) := by decide +kernel
theorem dX2_loanMarginsOfProduct_37 : decode cX2_loanMarginsOfProduct 37 = .ok (.iload_n 1, 1) := by decide +kernel
theorem dX2_loanMarginsOfProduct_38 : decode cX2_loanMarginsOfProduct 38 = .ok (.if_icmp .ne 11, 3) := by decide +kernel
theorem dX2_loanMarginsOfProduct_41 : decode cX2_loanMarginsOfProduct 41 = .ok (.iload_n 2, 1) := by decide +kernel
theorem dX2_loanMarginsOfProduct_42 : decode cX2_loanMarginsOfProduct 42 = .ok (.aload 6, 2) := by decide +kernel
theorem dX2_loanMarginsOfProduct_44 : decode cX2_loanMarginsOfProduct 44 = .ok (.invokevirtual 158, 3) := by decide +kernel
theorem dX2_loanMarginsOfProduct_47 : decode cX2_loanMarginsOfProduct 47 = .ok (.iadd, 1) := by decide +kernel
theorem dX2_loanMarginsOfProduct_48 : decode cX2_loanMarginsOfProduct 48 = .ok (.istore_n 2, 1) := by decide +kernel
theorem dX2_loanMarginsOfProduct_49 : decode cX2_loanMarginsOfProduct 49 = .ok (.iinc 5 1, 3) := by decide +kernel
theorem dX2_loanMarginsOfProduct_52 : decode cX2_loanMarginsOfProduct 52 = .ok (.goto (-38), 3) := by decide +kernel
theorem dX2_loanMarginsOfProduct_55 : decode cX2_loanMarginsOfProduct 55 = .ok (.iload_n 2, 1) := by decide +kernel
theorem dX2_loanMarginsOfProduct_56 : decode cX2_loanMarginsOfProduct 56 = .ok (.ireturn, 1) := by decide +kernel
set_option maxRecDepth 20000 in
theorem ggX2_reckonDeposits_X1_averageRate : GoodIn wsX2_reckonDeposits wsX1_averageRate := goodIn_r _ [11, 12, 13, 43, 44] (by decide +kernel) (by decide +kernel)
set_option maxRecDepth 20000 in
theorem gX2_reckonDeposits_X1_averageRate_n174 : GoodIn wsX2_reckonDeposits (wsX1_averageRate) := ggX2_reckonDeposits_X1_averageRate
set_option maxRecDepth 20000 in
theorem ggX2_reckonDeposits_X2_paidForDeposits : GoodIn wsX2_reckonDeposits wsX2_paidForDeposits := goodIn_r _ [18, 19, 20, 21, 22, 17, 23, 24, 25, 26, 27, 28, 29, 30, 31, 32, 33, 34, 35, 36, 37, 38, 39, 40, 41, 42] (by decide +kernel) (by decide +kernel)
set_option maxRecDepth 20000 in
theorem gX2_reckonDeposits_X2_paidForDeposits : GoodIn wsX2_reckonDeposits (wsV RX2 207 RX2 yX2_paidForDeposits wsX2_paidForDeposits) := goodIn_app (goodIn_of _ (by decide +kernel)) ggX2_reckonDeposits_X2_paidForDeposits
set_option maxRecDepth 20000 in
theorem ggX2_reckonDeposits_X2_forOneMonth : GoodIn wsX2_reckonDeposits wsX2_forOneMonth := goodIn_r _ [28, 29] (by decide +kernel) (by decide +kernel)
set_option maxRecDepth 20000 in
theorem gX2_reckonDeposits_X2_forOneMonth : GoodIn wsX2_reckonDeposits (va_wsS RX2 211 yX2_forOneMonth wsX2_forOneMonth) := goodIn_app (goodIn_of _ (by decide +kernel)) ggX2_reckonDeposits_X2_forOneMonth
theorem dX2_reckonDeposits_0 : decode cX2_reckonDeposits 0 = .ok (.aload_n 0, 1) := by decide +kernel
theorem dX2_reckonDeposits_1 : decode cX2_reckonDeposits 1 = .ok (.getfield 41, 3) := by decide +kernel
theorem dX2_reckonDeposits_4 : decode cX2_reckonDeposits 4 = .ok (.invokevirtual 174, 3) := by decide +kernel
theorem dX2_reckonDeposits_7 : decode cX2_reckonDeposits 7 = .ok (.istore_n 1, 1) := by decide +kernel
theorem dX2_reckonDeposits_8 : decode cX2_reckonDeposits 8 = .ok (.iconst 0, 1) := by decide +kernel
theorem dX2_reckonDeposits_9 : decode cX2_reckonDeposits 9 = .ok (.istore_n 2, 1) := by decide +kernel
theorem dX2_reckonDeposits_10 : decode cX2_reckonDeposits 10 = .ok (.iload_n 2, 1) := by decide +kernel
theorem dX2_reckonDeposits_11 : decode cX2_reckonDeposits 11 = .ok (.iconst 3, 1) := by decide +kernel
theorem dX2_reckonDeposits_12 : decode cX2_reckonDeposits 12 = .ok (.if_icmp .ge 84, 3) := by decide +kernel
theorem dX2_reckonDeposits_15 : decode cX2_reckonDeposits 15 = .ok (.aload_n 0, 1) := by decide +kernel
theorem dX2_reckonDeposits_16 : decode cX2_reckonDeposits 16 = .ok (.aload_n 0, 1) := by decide +kernel
theorem dX2_reckonDeposits_17 : decode cX2_reckonDeposits 17 = .ok (.getfield 35, 3) := by decide +kernel
theorem dX2_reckonDeposits_20 : decode cX2_reckonDeposits 20 = .ok (.iload_n 2, 1) := by decide +kernel
theorem dX2_reckonDeposits_21 : decode cX2_reckonDeposits 21 = .ok (.iaload, 1) := by decide +kernel
theorem dX2_reckonDeposits_22 : decode cX2_reckonDeposits 22 = .ok (.iload_n 1, 1) := by decide +kernel
theorem dX2_reckonDeposits_23 : decode cX2_reckonDeposits 23 = .ok (.invokevirtual 207, 3) := by decide +kernel
theorem dX2_reckonDeposits_26 : decode cX2_reckonDeposits 26 = .ok (.istore_n 3, 1) := by decide +kernel
theorem dX2_reckonDeposits_27 : decode cX2_reckonDeposits 27 = .ok (.aload_n 0, 1) := by decide +kernel
theorem dX2_reckonDeposits_28 : decode cX2_reckonDeposits 28 = .ok (.getfield 35, 3) := by decide +kernel
theorem dX2_reckonDeposits_31 : decode cX2_reckonDeposits 31 = .ok (.iload_n 2, 1) := by decide +kernel
theorem dX2_reckonDeposits_32 : decode cX2_reckonDeposits 32 = .ok (.iaload, 1) := by decide +kernel
theorem dX2_reckonDeposits_33 : decode cX2_reckonDeposits 33 = .ok (.i2l, 1) := by decide +kernel
theorem dX2_reckonDeposits_34 : decode cX2_reckonDeposits 34 = .ok (.aload_n 0, 1) := by decide +kernel
theorem dX2_reckonDeposits_35 : decode cX2_reckonDeposits 35 = .ok (.getfield 13, 3) := by decide +kernel
theorem dX2_reckonDeposits_38 : decode cX2_reckonDeposits 38 = .ok (.i2l, 1) := by decide +kernel
theorem dX2_reckonDeposits_39 : decode cX2_reckonDeposits 39 = .ok (.lmul, 1) := by decide +kernel
theorem dX2_reckonDeposits_40 : decode cX2_reckonDeposits 40 = .ok (.invokestatic 211, 3) := by decide +kernel
theorem dX2_reckonDeposits_43 : decode cX2_reckonDeposits 43 = .ok (.istore 4, 2) := by decide +kernel
theorem dX2_reckonDeposits_45 : decode cX2_reckonDeposits 45 = .ok (.aload_n 0, 1) := by decide +kernel
theorem dX2_reckonDeposits_46 : decode cX2_reckonDeposits 46 = .ok (.getfield 47, 3) := by decide +kernel
theorem dX2_reckonDeposits_49 : decode cX2_reckonDeposits 49 = .ok (.iload_n 2, 1) := by decide +kernel
theorem dX2_reckonDeposits_50 : decode cX2_reckonDeposits 50 = .ok (.aaload, 1) := by decide +kernel
theorem dX2_reckonDeposits_51 : decode cX2_reckonDeposits 51 = .ok (.aload_n 0, 1) := by decide +kernel
theorem dX2_reckonDeposits_52 : decode cX2_reckonDeposits 52 = .ok (.getfield 23, 3) := by decide +kernel
theorem dX2_reckonDeposits_55 : decode cX2_reckonDeposits 55 = .ok (.dup2, 1) := by decide +kernel
theorem dX2_reckonDeposits_56 : decode cX2_reckonDeposits 56 = .ok (.iaload, 1) := by decide +kernel
theorem dX2_reckonDeposits_57 : decode cX2_reckonDeposits 57 = .ok (.iload_n 3, 1) := by decide +kernel
theorem dX2_reckonDeposits_58 : decode cX2_reckonDeposits 58 = .ok (.iload 4, 2) := by decide +kernel
theorem dX2_reckonDeposits_60 : decode cX2_reckonDeposits 60 = .ok (.isub, 1) := by decide +kernel
theorem dX2_reckonDeposits_61 : decode cX2_reckonDeposits 61 = .ok (.iadd, 1) := by decide +kernel
theorem dX2_reckonDeposits_62 : decode cX2_reckonDeposits 62 = .ok (.iastore, 1) := by decide +kernel
theorem dX2_reckonDeposits_63 : decode cX2_reckonDeposits 63 = .ok (.aload_n 0, 1) := by decide +kernel
theorem dX2_reckonDeposits_64 : decode cX2_reckonDeposits 64 = .ok (.getfield 53, 3) := by decide +kernel
theorem dX2_reckonDeposits_67 : decode cX2_reckonDeposits 67 = .ok (.aload_n 0, 1) := by decide +kernel
theorem dX2_reckonDeposits_68 : decode cX2_reckonDeposits 68 = .ok (.getfield 23, 3) := by decide +kernel
theorem dX2_reckonDeposits_71 : decode cX2_reckonDeposits 71 = .ok (.dup2, 1) := by decide +kernel
theorem dX2_reckonDeposits_72 : decode cX2_reckonDeposits 72 = .ok (.iaload, 1) := by decide +kernel
theorem dX2_reckonDeposits_73 : decode cX2_reckonDeposits 73 = .ok (.iload_n 3, 1) := by decide +kernel
theorem dX2_reckonDeposits_74 : decode cX2_reckonDeposits 74 = .ok (.isub, 1) := by decide +kernel
theorem dX2_reckonDeposits_75 : decode cX2_reckonDeposits 75 = .ok (.iastore, 1) := by decide +kernel
theorem dX2_reckonDeposits_76 : decode cX2_reckonDeposits 76 = .ok (.aload_n 0, 1) := by decide +kernel
theorem dX2_reckonDeposits_77 : decode cX2_reckonDeposits 77 = .ok (.getfield 56, 3) := by decide +kernel
theorem dX2_reckonDeposits_80 : decode cX2_reckonDeposits 80 = .ok (.aload_n 0, 1) := by decide +kernel
theorem dX2_reckonDeposits_81 : decode cX2_reckonDeposits 81 = .ok (.getfield 23, 3) := by decide +kernel
theorem dX2_reckonDeposits_84 : decode cX2_reckonDeposits 84 = .ok (.dup2, 1) := by decide +kernel
theorem dX2_reckonDeposits_85 : decode cX2_reckonDeposits 85 = .ok (.iaload, 1) := by decide +kernel
theorem dX2_reckonDeposits_86 : decode cX2_reckonDeposits 86 = .ok (.iload 4, 2) := by decide +kernel
theorem dX2_reckonDeposits_88 : decode cX2_reckonDeposits 88 = .ok (.isub, 1) := by decide +kernel
theorem dX2_reckonDeposits_89 : decode cX2_reckonDeposits 89 = .ok (.iastore, 1) := by decide +kernel
theorem dX2_reckonDeposits_90 : decode cX2_reckonDeposits 90 = .ok (.iinc 2 1, 3) := by decide +kernel
theorem dX2_reckonDeposits_93 : decode cX2_reckonDeposits 93 = .ok (.goto (-83), 3) := by decide +kernel
theorem dX2_reckonDeposits_96 : decode cX2_reckonDeposits 96 = .ok (.return_, 1) := by decide +kernel
set_option maxRecDepth 20000 in
theorem ggX2_paidForDeposits_X2_coreOf : GoodIn wsX2_paidForDeposits wsX2_coreOf := goodIn_r _ [6, 7, 8, 13, 14, 15, 16, 17, 18, 19, 20, 21, 22, 23, 24, 25] (by decide +kernel) (by decide +kernel)
set_option maxRecDepth 20000 in
theorem gX2_paidForDeposits_X2_coreOf : GoodIn wsX2_paidForDeposits (wsV RX2 191 RX2 yX2_coreOf wsX2_coreOf) := goodIn_app (goodIn_of _ (by decide +kernel)) ggX2_paidForDeposits_X2_coreOf
set_option maxRecDepth 20000 in
theorem ggX2_paidForDeposits_X2_forOneMonth : GoodIn wsX2_paidForDeposits wsX2_forOneMonth := goodIn_r _ [11, 12] (by decide +kernel) (by decide +kernel)
set_option maxRecDepth 20000 in
theorem gX2_paidForDeposits_X2_forOneMonth : GoodIn wsX2_paidForDeposits (va_wsS RX2 211 yX2_forOneMonth wsX2_forOneMonth) := goodIn_app (goodIn_of _ (by decide +kernel)) ggX2_paidForDeposits_X2_forOneMonth
theorem dX2_paidForDeposits_0 : decode cX2_paidForDeposits 0 = .ok (.aload_n 0, 1) := by decide +kernel
theorem dX2_paidForDeposits_1 : decode cX2_paidForDeposits 1 = .ok (.iload_n 1, 1) := by decide +kernel
theorem dX2_paidForDeposits_2 : decode cX2_paidForDeposits 2 = .ok (.i2l, 1) := by decide +kernel
theorem dX2_paidForDeposits_3 : decode cX2_paidForDeposits 3 = .ok (.invokevirtual 191, 3) := by decide +kernel
theorem dX2_paidForDeposits_6 : decode cX2_paidForDeposits 6 = .ok (.istore_n 3, 1) := by decide +kernel
theorem dX2_paidForDeposits_7 : decode cX2_paidForDeposits 7 = .ok (.iload_n 1, 1) := by decide +kernel
theorem dX2_paidForDeposits_8 : decode cX2_paidForDeposits 8 = .ok (.iload_n 3, 1) := by decide +kernel
theorem dX2_paidForDeposits_9 : decode cX2_paidForDeposits 9 = .ok (.isub, 1) := by decide +kernel
theorem dX2_paidForDeposits_10 : decode cX2_paidForDeposits 10 = .ok (.istore 4, 2) := by decide +kernel
theorem dX2_paidForDeposits_12 : decode cX2_paidForDeposits 12 = .ok (.iload_n 3, 1) := by decide +kernel
theorem dX2_paidForDeposits_13 : decode cX2_paidForDeposits 13 = .ok (.i2l, 1) := by decide +kernel
theorem dX2_paidForDeposits_14 : decode cX2_paidForDeposits 14 = .ok (.iload_n 2, 1) := by decide +kernel
theorem dX2_paidForDeposits_15 : decode cX2_paidForDeposits 15 = .ok (.i2l, 1) := by decide +kernel
theorem dX2_paidForDeposits_16 : decode cX2_paidForDeposits 16 = .ok (.lmul, 1) := by decide +kernel
theorem dX2_paidForDeposits_17 : decode cX2_paidForDeposits 17 = .ok (.iload 4, 2) := by decide +kernel
theorem dX2_paidForDeposits_19 : decode cX2_paidForDeposits 19 = .ok (.i2l, 1) := by decide +kernel
theorem dX2_paidForDeposits_20 : decode cX2_paidForDeposits 20 = .ok (.aload_n 0, 1) := by decide +kernel
theorem dX2_paidForDeposits_21 : decode cX2_paidForDeposits 21 = .ok (.getfield 9, 3) := by decide +kernel
theorem dX2_paidForDeposits_24 : decode cX2_paidForDeposits 24 = .ok (.iconst 0, 1) := by decide +kernel
theorem dX2_paidForDeposits_25 : decode cX2_paidForDeposits 25 = .ok (.iaload, 1) := by decide +kernel
theorem dX2_paidForDeposits_26 : decode cX2_paidForDeposits 26 = .ok (.i2l, 1) := by decide +kernel
theorem dX2_paidForDeposits_27 : decode cX2_paidForDeposits 27 = .ok (.lmul, 1) := by decide +kernel
theorem dX2_paidForDeposits_28 : decode cX2_paidForDeposits 28 = .ok (.ladd, 1) := by decide +kernel
theorem dX2_paidForDeposits_29 : decode cX2_paidForDeposits 29 = .ok (.invokestatic 211, 3) := by decide +kernel
theorem dX2_paidForDeposits_32 : decode cX2_paidForDeposits 32 = .ok (.ireturn, 1) := by decide +kernel
set_option maxRecDepth 20000 in
theorem ggX2_payParts_X0_payPart : GoodIn wsX2_payParts wsX0_payPart := goodIn_r _ [5, 6, 20, 21, 22, 23, 24, 25, 26, 27] (by decide +kernel) (by decide +kernel)
set_option maxRecDepth 20000 in
theorem gX2_payParts_X0_payPart_n214 : GoodIn wsX2_payParts (wsX0_payPart) := ggX2_payParts_X0_payPart
theorem dX2_payParts_0 : decode cX2_payParts 0 = .ok (.aload_n 0, 1) := by decide +kernel
theorem dX2_payParts_1 : decode cX2_payParts 1 = .ok (.getfield 28, 3) := by decide +kernel
theorem dX2_payParts_4 : decode cX2_payParts 4 = .ok (.astore_n 1, 1) := by decide +kernel
theorem dX2_payParts_5 : decode cX2_payParts 5 = .ok (.aload_n 1, 1) := by decide +kernel
theorem dX2_payParts_6 : decode cX2_payParts 6 = .ok (.arraylength, 1) := by decide +kernel
theorem dX2_payParts_7 : decode cX2_payParts 7 = .ok (.istore_n 2, 1) := by decide +kernel
theorem dX2_payParts_8 : decode cX2_payParts 8 = .ok (.iconst 0, 1) := by decide +kernel
theorem dX2_payParts_9 : decode cX2_payParts 9 = .ok (.istore_n 3, 1) := by decide +kernel
theorem dX2_payParts_10 : decode cX2_payParts 10 = .ok (.iload_n 3, 1) := by decide +kernel
theorem dX2_payParts_11 : decode cX2_payParts 11 = .ok (.iload_n 2, 1) := by decide +kernel
theorem dX2_payParts_12 : decode cX2_payParts 12 = .ok (.if_icmp .ge 24, 3) := by decide +kernel
theorem dX2_payParts_15 : decode cX2_payParts 15 = .ok (.aload_n 1, 1) := by decide +kernel
theorem dX2_payParts_16 : decode cX2_payParts 16 = .ok (.iload_n 3, 1) := by decide +kernel
theorem dX2_payParts_17 : decode cX2_payParts 17 = .ok (.aaload, 1) := by decide +kernel
theorem dX2_payParts_18 : decode cX2_payParts 18 = .ok (.astore 4, 2) := by decide +kernel
theorem dX2_payParts_20 : decode cX2_payParts 20 = .ok (.aload 4, 2) := by decide +kernel
theorem dX2_payParts_22 : decode cX2_payParts 22 = .ok (.ifnull 8, 3) := by decide +kernel
theorem dX2_payParts_25 : decode cX2_payParts 25 = .ok (.aload 4, 2) := by decide +kernel
theorem dX2_payParts_27 : decode cX2_payParts 27 = .ok (.invokevirtual 214, 3) := by decide +kernel
theorem dX2_payParts_30 : decode cX2_payParts 30 = .ok (.iinc 3 1, 3) := by decide +kernel
theorem dX2_payParts_33 : decode cX2_payParts 33 = .ok (.goto (-23), 3) := by decide +kernel
theorem dX2_payParts_36 : decode cX2_payParts 36 = .ok (.return_, 1) := by decide +kernel
end
section
theorem dL_cell_0 : decode cL_cell 0 = .ok (.iload_n 1, 1) := by decide +kernel
theorem dL_cell_1 : decode cL_cell 1 = .ok (.aload_n 0, 1) := by decide +kernel
theorem dL_cell_2 : decode cL_cell 2 = .ok (.arraylength, 1) := by decide +kernel
theorem dL_cell_3 : decode cL_cell 3 = .ok (.if_icmp .ge 9, 3) := by decide +kernel
theorem dL_cell_6 : decode cL_cell 6 = .ok (.aload_n 0, 1) := by decide +kernel
theorem dL_cell_7 : decode cL_cell 7 = .ok (.iload_n 1, 1) := by decide +kernel
theorem dL_cell_8 : decode cL_cell 8 = .ok (.iaload, 1) := by decide +kernel
theorem dL_cell_9 : decode cL_cell 9 = .ok (.goto 13, 3) := by decide +kernel
theorem dL_cell_12 : decode cL_cell 12 = .ok (.ldc 7, 2) := by decide +kernel
theorem dL_cell_14 : decode cL_cell 14 = .ok (.iload_n 1, 1) := by decide +kernel
theorem dL_cell_15 : decode cL_cell 15 = .ok (.bipush 19, 2) := by decide +kernel
theorem dL_cell_17 : decode cL_cell 17 = .ok (.iadd, 1) := by decide +kernel
theorem dL_cell_18 : decode cL_cell 18 = .ok (.imul, 1) := by decide +kernel
theorem dL_cell_19 : decode cL_cell 19 = .ok (.ldc 8, 2) := by decide +kernel
theorem dL_cell_21 : decode cL_cell 21 = .ok (.iadd, 1) := by decide +kernel
theorem dL_cell_22 : decode cL_cell 22 = .ok (.ireturn, 1) := by decide +kernel
theorem dL_low_0 : decode cL_low 0 = .ok (.iload_n 0, 1) := by decide +kernel
theorem dL_low_1 : decode cL_low 1 = .ok (.ldc 9, 2) := by decide +kernel
theorem dL_low_3 : decode cL_low 3 = .ok (.iand, 1) := by decide +kernel
theorem dL_low_4 : decode cL_low 4 = .ok (.iload_n 1, 1) := by decide +kernel
theorem dL_low_5 : decode cL_low 5 = .ok (.irem, 1) := by decide +kernel
theorem dL_low_6 : decode cL_low 6 = .ok (.ireturn, 1) := by decide +kernel
set_option maxRecDepth 20000 in
theorem ggL_calls_X2_repay : GoodIn wsL_calls wsX2_repay := goodIn_ca (goodIn_ca (goodIn_r _ [6, 7, 8, 9, 10, 11, 12, 13, 5, 14, 15, 16, 17, 18, 19, 20, 21, 22, 23, 24, 119, 120, 121, 122, 123, 124, 125, 126, 127, 128, 129, 130, 131, 132, 133, 134, 135, 136, 137, 138, 139] (by decide +kernel) (by decide +kernel)) (goodIn_sub (fun _ h => List.mem_cons_of_mem _ (List.mem_append_left _ (List.mem_append_left _ (List.mem_append_right _ h)))) (by decide +kernel))) (goodIn_sub (fun _ h => List.mem_cons_of_mem _ (List.mem_append_left _ (List.mem_append_right _ h))) (by decide +kernel))
set_option maxRecDepth 20000 in
theorem gL_calls_X2_repay : GoodIn wsL_calls (wsV RL 10 RX2 yX2_repay wsX2_repay) := goodIn_app (goodIn_of _ (by decide +kernel)) ggL_calls_X2_repay
set_option maxRecDepth 20000 in
theorem ggL_calls_X2_deposit : GoodIn wsL_calls wsX2_deposit := goodIn_ca (goodIn_ca (goodIn_ca (goodIn_r _ [28, 7, 8, 29, 30, 9, 10, 31, 32, 33, 34, 35, 36, 37, 38, 39, 5, 40, 41, 42, 43, 44, 45, 46, 47, 48, 49, 50, 51, 52, 53, 54, 55, 56, 127, 128, 129, 130, 131, 132, 133, 134, 135, 136, 137, 138, 139, 140, 141] (by decide +kernel) (by decide +kernel)) (goodIn_sub (fun _ h => List.mem_cons_of_mem _ (List.mem_append_left _ (List.mem_append_left _ (List.mem_append_right _ h)))) (by decide +kernel))) (goodIn_sub (fun _ h => List.mem_cons_of_mem _ (List.mem_append_right _ h)) (by decide +kernel))) (goodIn_sub (fun _ h => List.mem_cons_of_mem _ (List.mem_append_left _ (List.mem_append_right _ h))) (by decide +kernel))
set_option maxRecDepth 20000 in
theorem gL_calls_X2_deposit : GoodIn wsL_calls (wsV RL 16 RX2 yX2_deposit wsX2_deposit) := goodIn_app (goodIn_of _ (by decide +kernel)) ggL_calls_X2_deposit
set_option maxRecDepth 20000 in
theorem ggL_calls_X2_closeMonth : GoodIn wsL_calls wsX2_closeMonth := goodIn_ca (goodIn_r _ [60, 9, 10, 34, 35, 36, 61, 62, 63, 5, 64, 65, 66, 15, 67, 68, 69, 70, 71, 72, 73, 17, 74, 75, 76, 77, 78, 79, 80, 81, 16, 18, 19, 20, 21, 82, 83, 84, 85, 86, 87, 88, 89, 90, 91, 92, 93, 94, 95, 96, 97, 98, 99, 100, 101, 102, 33, 103, 104, 48, 105, 106, 55, 56, 107, 108, 109, 110, 41, 42, 43, 44, 45, 46, 111, 112, 113, 114, 115, 116, 117, 118, 37, 38, 39, 40, 52, 53, 54, 127, 128, 129, 130, 131, 132, 133, 134, 135, 136, 137, 138, 139, 119, 120, 121, 122, 123, 124, 125, 126, 140, 141] (by decide +kernel) (by decide +kernel)) (goodIn_sub (fun _ h => List.mem_cons_of_mem _ (List.mem_append_left _ (List.mem_append_right _ h))) (by decide +kernel))
set_option maxRecDepth 20000 in
theorem gL_calls_X2_closeMonth : GoodIn wsL_calls (wsV RL 20 RX2 yX2_closeMonth wsX2_closeMonth) := goodIn_app (goodIn_of _ (by decide +kernel)) ggL_calls_X2_closeMonth
theorem dL_calls_0 : decode cL_calls 0 = .ok (.iload_n 1, 1) := by decide +kernel
theorem dL_calls_1 : decode cL_calls 1 = .ok (.ifCond .ne 11, 3) := by decide +kernel
theorem dL_calls_4 : decode cL_calls 4 = .ok (.aload_n 0, 1) := by decide +kernel
theorem dL_calls_5 : decode cL_calls 5 = .ok (.iload_n 2, 1) := by decide +kernel
theorem dL_calls_6 : decode cL_calls 6 = .ok (.invokevirtual 10, 3) := by decide +kernel
theorem dL_calls_9 : decode cL_calls 9 = .ok (.goto 21, 3) := by decide +kernel
theorem dL_calls_12 : decode cL_calls 12 = .ok (.iload_n 1, 1) := by decide +kernel
theorem dL_calls_13 : decode cL_calls 13 = .ok (.iconst 1, 1) := by decide +kernel
theorem dL_calls_14 : decode cL_calls 14 = .ok (.if_icmp .ne 12, 3) := by decide +kernel
theorem dL_calls_17 : decode cL_calls 17 = .ok (.aload_n 0, 1) := by decide +kernel
theorem dL_calls_18 : decode cL_calls 18 = .ok (.iload_n 2, 1) := by decide +kernel
theorem dL_calls_19 : decode cL_calls 19 = .ok (.iload_n 3, 1) := by decide +kernel
theorem dL_calls_20 : decode cL_calls 20 = .ok (.invokevirtual 16, 3) := by decide +kernel
theorem dL_calls_23 : decode cL_calls 23 = .ok (.goto 7, 3) := by decide +kernel
theorem dL_calls_26 : decode cL_calls 26 = .ok (.aload_n 0, 1) := by decide +kernel
theorem dL_calls_27 : decode cL_calls 27 = .ok (.invokevirtual 20, 3) := by decide +kernel
theorem dL_calls_30 : decode cL_calls 30 = .ok (.ireturn, 1) := by decide +kernel
theorem dL_calls_31 : decode cL_calls 31 = .ok (.astore 4, 2) := by decide +kernel
theorem dL_calls_33 : decode cL_calls 33 = .ok (.bipush (-3), 2) := by decide +kernel
theorem dL_calls_35 : decode cL_calls 35 = .ok (.ireturn, 1) := by decide +kernel
theorem dL_part_0 : decode cL_part 0 = .ok (.bipush 8, 2) := by decide +kernel
theorem dL_part_2 : decode cL_part 2 = .ok (.iload_n 0, 1) := by decide +kernel
theorem dL_part_3 : decode cL_part 3 = .ok (.imul, 1) := by decide +kernel
theorem dL_part_4 : decode cL_part 4 = .ok (.istore 4, 2) := by decide +kernel
theorem dL_part_6 : decode cL_part 6 = .ok (.aload_n 2, 1) := by decide +kernel
theorem dL_part_7 : decode cL_part 7 = .ok (.iload 4, 2) := by decide +kernel
theorem dL_part_9 : decode cL_part 9 = .ok (.iconst 4, 1) := by decide +kernel
theorem dL_part_10 : decode cL_part 10 = .ok (.iadd, 1) := by decide +kernel
theorem dL_part_11 : decode cL_part 11 = .ok (.iaload, 1) := by decide +kernel
theorem dL_part_12 : decode cL_part 12 = .ok (.istore 5, 2) := by decide +kernel
theorem dL_part_14 : decode cL_part 14 = .ok (.iload_n 1, 1) := by decide +kernel
theorem dL_part_15 : decode cL_part 15 = .ok (.aload_n 2, 1) := by decide +kernel
theorem dL_part_16 : decode cL_part 16 = .ok (.iload 4, 2) := by decide +kernel
theorem dL_part_18 : decode cL_part 18 = .ok (.iconst 5, 1) := by decide +kernel
theorem dL_part_19 : decode cL_part 19 = .ok (.iadd, 1) := by decide +kernel
theorem dL_part_20 : decode cL_part 20 = .ok (.iaload, 1) := by decide +kernel
theorem dL_part_21 : decode cL_part 21 = .ok (.isub, 1) := by decide +kernel
theorem dL_part_22 : decode cL_part 22 = .ok (.iconst 1, 1) := by decide +kernel
theorem dL_part_23 : decode cL_part 23 = .ok (.iadd, 1) := by decide +kernel
theorem dL_part_24 : decode cL_part 24 = .ok (.istore 6, 2) := by decide +kernel
theorem dL_part_26 : decode cL_part 26 = .ok (.aload_n 2, 1) := by decide +kernel
theorem dL_part_27 : decode cL_part 27 = .ok (.iload 4, 2) := by decide +kernel
theorem dL_part_29 : decode cL_part 29 = .ok (.iconst 2, 1) := by decide +kernel
theorem dL_part_30 : decode cL_part 30 = .ok (.iadd, 1) := by decide +kernel
theorem dL_part_31 : decode cL_part 31 = .ok (.iaload, 1) := by decide +kernel
theorem dL_part_32 : decode cL_part 32 = .ok (.iload 5, 2) := by decide +kernel
theorem dL_part_34 : decode cL_part 34 = .ok (.idiv, 1) := by decide +kernel
theorem dL_part_35 : decode cL_part 35 = .ok (.istore 7, 2) := by decide +kernel
theorem dL_part_37 : decode cL_part 37 = .ok (.aload_n 2, 1) := by decide +kernel
theorem dL_part_38 : decode cL_part 38 = .ok (.iload 4, 2) := by decide +kernel
theorem dL_part_40 : decode cL_part 40 = .ok (.bipush 7, 2) := by decide +kernel
theorem dL_part_42 : decode cL_part 42 = .ok (.iadd, 1) := by decide +kernel
theorem dL_part_43 : decode cL_part 43 = .ok (.iaload, 1) := by decide +kernel
theorem dL_part_44 : decode cL_part 44 = .ok (.iconst 1, 1) := by decide +kernel
theorem dL_part_45 : decode cL_part 45 = .ok (.if_icmp .eq 17, 3) := by decide +kernel
theorem dL_part_48 : decode cL_part 48 = .ok (.iload_n 1, 1) := by decide +kernel
theorem dL_part_49 : decode cL_part 49 = .ok (.aload_n 3, 1) := by decide +kernel
theorem dL_part_50 : decode cL_part 50 = .ok (.iconst 0, 1) := by decide +kernel
theorem dL_part_51 : decode cL_part 51 = .ok (.iaload, 1) := by decide +kernel
theorem dL_part_52 : decode cL_part 52 = .ok (.if_icmp .lt 10, 3) := by decide +kernel
theorem dL_part_55 : decode cL_part 55 = .ok (.iload 6, 2) := by decide +kernel
theorem dL_part_57 : decode cL_part 57 = .ok (.iload 5, 2) := by decide +kernel
theorem dL_part_59 : decode cL_part 59 = .ok (.if_icmp .le 7, 3) := by decide +kernel
theorem dL_part_62 : decode cL_part 62 = .ok (.iconst 0, 1) := by decide +kernel
theorem dL_part_63 : decode cL_part 63 = .ok (.goto 30, 3) := by decide +kernel
theorem dL_part_66 : decode cL_part 66 = .ok (.iload 6, 2) := by decide +kernel
theorem dL_part_68 : decode cL_part 68 = .ok (.iload 5, 2) := by decide +kernel
theorem dL_part_70 : decode cL_part 70 = .ok (.if_icmp .ge 8, 3) := by decide +kernel
theorem dL_part_73 : decode cL_part 73 = .ok (.iload 7, 2) := by decide +kernel
theorem dL_part_75 : decode cL_part 75 = .ok (.goto 18, 3) := by decide +kernel
theorem dL_part_78 : decode cL_part 78 = .ok (.aload_n 2, 1) := by decide +kernel
theorem dL_part_79 : decode cL_part 79 = .ok (.iload 4, 2) := by decide +kernel
theorem dL_part_81 : decode cL_part 81 = .ok (.iconst 2, 1) := by decide +kernel
theorem dL_part_82 : decode cL_part 82 = .ok (.iadd, 1) := by decide +kernel
theorem dL_part_83 : decode cL_part 83 = .ok (.iaload, 1) := by decide +kernel
theorem dL_part_84 : decode cL_part 84 = .ok (.iload 7, 2) := by decide +kernel
theorem dL_part_86 : decode cL_part 86 = .ok (.iload 5, 2) := by decide +kernel
theorem dL_part_88 : decode cL_part 88 = .ok (.imul, 1) := by decide +kernel
theorem dL_part_89 : decode cL_part 89 = .ok (.isub, 1) := by decide +kernel
theorem dL_part_90 : decode cL_part 90 = .ok (.iload 7, 2) := by decide +kernel
theorem dL_part_92 : decode cL_part 92 = .ok (.iadd, 1) := by decide +kernel
theorem dL_part_93 : decode cL_part 93 = .ok (.ireturn, 1) := by decide +kernel
set_option maxRecDepth 20000 in
theorem ggL_left_L_part : GoodIn wsL_left wsL_part := goodIn_r _ [4] (by decide +kernel) (by decide +kernel)
set_option maxRecDepth 20000 in
theorem gL_left_L_part : GoodIn wsL_left (va_wsS RL 26 yL_part wsL_part) := goodIn_app (goodIn_of _ (by decide +kernel)) ggL_left_L_part
theorem dL_left_0 : decode cL_left 0 = .ok (.iconst 0, 1) := by decide +kernel
theorem dL_left_1 : decode cL_left 1 = .ok (.istore_n 3, 1) := by decide +kernel
theorem dL_left_2 : decode cL_left 2 = .ok (.aload_n 2, 1) := by decide +kernel
theorem dL_left_3 : decode cL_left 3 = .ok (.iconst 0, 1) := by decide +kernel
theorem dL_left_4 : decode cL_left 4 = .ok (.iaload, 1) := by decide +kernel
theorem dL_left_5 : decode cL_left 5 = .ok (.istore 4, 2) := by decide +kernel
theorem dL_left_7 : decode cL_left 7 = .ok (.iload 4, 2) := by decide +kernel
theorem dL_left_9 : decode cL_left 9 = .ok (.aload_n 2, 1) := by decide +kernel
theorem dL_left_10 : decode cL_left 10 = .ok (.iconst 0, 1) := by decide +kernel
theorem dL_left_11 : decode cL_left 11 = .ok (.iaload, 1) := by decide +kernel
theorem dL_left_12 : decode cL_left 12 = .ok (.bipush 6, 2) := by decide +kernel
theorem dL_left_14 : decode cL_left 14 = .ok (.iadd, 1) := by decide +kernel
theorem dL_left_15 : decode cL_left 15 = .ok (.if_icmp .ge 20, 3) := by decide +kernel
theorem dL_left_18 : decode cL_left 18 = .ok (.iload_n 3, 1) := by decide +kernel
theorem dL_left_19 : decode cL_left 19 = .ok (.iload_n 0, 1) := by decide +kernel
theorem dL_left_20 : decode cL_left 20 = .ok (.iload 4, 2) := by decide +kernel
theorem dL_left_22 : decode cL_left 22 = .ok (.aload_n 1, 1) := by decide +kernel
theorem dL_left_23 : decode cL_left 23 = .ok (.aload_n 2, 1) := by decide +kernel
theorem dL_left_24 : decode cL_left 24 = .ok (.invokestatic 26, 3) := by decide +kernel
theorem dL_left_27 : decode cL_left 27 = .ok (.iadd, 1) := by decide +kernel
theorem dL_left_28 : decode cL_left 28 = .ok (.istore_n 3, 1) := by decide +kernel
theorem dL_left_29 : decode cL_left 29 = .ok (.iinc 4 1, 3) := by decide +kernel
theorem dL_left_32 : decode cL_left 32 = .ok (.goto (-25), 3) := by decide +kernel
theorem dL_left_35 : decode cL_left 35 = .ok (.iload_n 3, 1) := by decide +kernel
theorem dL_left_36 : decode cL_left 36 = .ok (.ireturn, 1) := by decide +kernel
set_option maxRecDepth 20000 in
theorem ggL_bears_L_left : GoodIn wsL_bears wsL_left := goodIn_r _ [5, 6, 7, 4, 8] (by decide +kernel) (by decide +kernel)
set_option maxRecDepth 20000 in
theorem gL_bears_L_left : GoodIn wsL_bears (va_wsS RL 32 yL_left wsL_left) := goodIn_app (goodIn_of _ (by decide +kernel)) ggL_bears_L_left
set_option maxRecDepth 20000 in
theorem ggL_bears_L_part : GoodIn wsL_bears wsL_part := goodIn_r _ [8] (by decide +kernel) (by decide +kernel)
set_option maxRecDepth 20000 in
theorem gL_bears_L_part : GoodIn wsL_bears (va_wsS RL 26 yL_part wsL_part) := goodIn_app (goodIn_of _ (by decide +kernel)) ggL_bears_L_part
theorem dL_bears_0 : decode cL_bears 0 = .ok (.iload_n 0, 1) := by decide +kernel
theorem dL_bears_1 : decode cL_bears 1 = .ok (.aload_n 2, 1) := by decide +kernel
theorem dL_bears_2 : decode cL_bears 2 = .ok (.aload 4, 2) := by decide +kernel
theorem dL_bears_4 : decode cL_bears 4 = .ok (.invokestatic 32, 3) := by decide +kernel
theorem dL_bears_7 : decode cL_bears 7 = .ok (.istore 5, 2) := by decide +kernel
theorem dL_bears_9 : decode cL_bears 9 = .ok (.lconst 0, 1) := by decide +kernel
theorem dL_bears_10 : decode cL_bears 10 = .ok (.lstore 6, 2) := by decide +kernel
theorem dL_bears_12 : decode cL_bears 12 = .ok (.iconst 0, 1) := by decide +kernel
theorem dL_bears_13 : decode cL_bears 13 = .ok (.istore 8, 2) := by decide +kernel
theorem dL_bears_15 : decode cL_bears 15 = .ok (.iload 8, 2) := by decide +kernel
theorem dL_bears_17 : decode cL_bears 17 = .ok (.bipush 6, 2) := by decide +kernel
theorem dL_bears_19 : decode cL_bears 19 = .ok (.if_icmp .ge 49, 3) := by decide +kernel
theorem dL_bears_22 : decode cL_bears 22 = .ok (.iload_n 1, 1) := by decide +kernel
theorem dL_bears_23 : decode cL_bears 23 = .ok (.iconst 1, 1) := by decide +kernel
theorem dL_bears_24 : decode cL_bears 24 = .ok (.if_icmp .ne 44, 3) := by decide +kernel
theorem dL_bears_27 : decode cL_bears 27 = .ok (.lload 6, 2) := by decide +kernel
theorem dL_bears_29 : decode cL_bears 29 = .ok (.iload_n 0, 1) := by decide +kernel
theorem dL_bears_30 : decode cL_bears 30 = .ok (.aload_n 2, 1) := by decide +kernel
theorem dL_bears_31 : decode cL_bears 31 = .ok (.bipush 8, 2) := by decide +kernel
theorem dL_bears_33 : decode cL_bears 33 = .ok (.iload_n 0, 1) := by decide +kernel
theorem dL_bears_34 : decode cL_bears 34 = .ok (.imul, 1) := by decide +kernel
theorem dL_bears_35 : decode cL_bears 35 = .ok (.iconst 5, 1) := by decide +kernel
theorem dL_bears_36 : decode cL_bears 36 = .ok (.iadd, 1) := by decide +kernel
theorem dL_bears_37 : decode cL_bears 37 = .ok (.iaload, 1) := by decide +kernel
theorem dL_bears_38 : decode cL_bears 38 = .ok (.iload 8, 2) := by decide +kernel
theorem dL_bears_40 : decode cL_bears 40 = .ok (.iadd, 1) := by decide +kernel
theorem dL_bears_41 : decode cL_bears 41 = .ok (.aload_n 2, 1) := by decide +kernel
theorem dL_bears_42 : decode cL_bears 42 = .ok (.aload 4, 2) := by decide +kernel
theorem dL_bears_44 : decode cL_bears 44 = .ok (.invokestatic 26, 3) := by decide +kernel
theorem dL_bears_47 : decode cL_bears 47 = .ok (.i2l, 1) := by decide +kernel
theorem dL_bears_48 : decode cL_bears 48 = .ok (.aload_n 3, 1) := by decide +kernel
theorem dL_bears_49 : decode cL_bears 49 = .ok (.bipush 6, 2) := by decide +kernel
theorem dL_bears_51 : decode cL_bears 51 = .ok (.iload_n 0, 1) := by decide +kernel
theorem dL_bears_52 : decode cL_bears 52 = .ok (.imul, 1) := by decide +kernel
theorem dL_bears_53 : decode cL_bears 53 = .ok (.iload 8, 2) := by decide +kernel
theorem dL_bears_55 : decode cL_bears 55 = .ok (.iadd, 1) := by decide +kernel
theorem dL_bears_56 : decode cL_bears 56 = .ok (.iaload, 1) := by decide +kernel
theorem dL_bears_57 : decode cL_bears 57 = .ok (.i2l, 1) := by decide +kernel
theorem dL_bears_58 : decode cL_bears 58 = .ok (.lmul, 1) := by decide +kernel
theorem dL_bears_59 : decode cL_bears 59 = .ok (.ladd, 1) := by decide +kernel
theorem dL_bears_60 : decode cL_bears 60 = .ok (.lstore 6, 2) := by decide +kernel
theorem dL_bears_62 : decode cL_bears 62 = .ok (.iinc 8 1, 3) := by decide +kernel
theorem dL_bears_65 : decode cL_bears 65 = .ok (.goto (-50), 3) := by decide +kernel
theorem dL_bears_68 : decode cL_bears 68 = .ok (.iload_n 1, 1) := by decide +kernel
theorem dL_bears_69 : decode cL_bears 69 = .ok (.ifCond .ne 19, 3) := by decide +kernel
theorem dL_bears_72 : decode cL_bears 72 = .ok (.iload 5, 2) := by decide +kernel
theorem dL_bears_74 : decode cL_bears 74 = .ok (.i2l, 1) := by decide +kernel
theorem dL_bears_75 : decode cL_bears 75 = .ok (.aload_n 2, 1) := by decide +kernel
theorem dL_bears_76 : decode cL_bears 76 = .ok (.bipush 8, 2) := by decide +kernel
theorem dL_bears_78 : decode cL_bears 78 = .ok (.iload_n 0, 1) := by decide +kernel
theorem dL_bears_79 : decode cL_bears 79 = .ok (.imul, 1) := by decide +kernel
theorem dL_bears_80 : decode cL_bears 80 = .ok (.iconst 3, 1) := by decide +kernel
theorem dL_bears_81 : decode cL_bears 81 = .ok (.iadd, 1) := by decide +kernel
theorem dL_bears_82 : decode cL_bears 82 = .ok (.iaload, 1) := by decide +kernel
theorem dL_bears_83 : decode cL_bears 83 = .ok (.i2l, 1) := by decide +kernel
theorem dL_bears_84 : decode cL_bears 84 = .ok (.lmul, 1) := by decide +kernel
theorem dL_bears_85 : decode cL_bears 85 = .ok (.goto 43, 3) := by decide +kernel
theorem dL_bears_88 : decode cL_bears 88 = .ok (.iload_n 1, 1) := by decide +kernel
theorem dL_bears_89 : decode cL_bears 89 = .ok (.iconst 1, 1) := by decide +kernel
theorem dL_bears_90 : decode cL_bears 90 = .ok (.if_icmp .ne 8, 3) := by decide +kernel
theorem dL_bears_93 : decode cL_bears 93 = .ok (.lload 6, 2) := by decide +kernel
theorem dL_bears_95 : decode cL_bears 95 = .ok (.goto 33, 3) := by decide +kernel
theorem dL_bears_98 : decode cL_bears 98 = .ok (.aload_n 2, 1) := by decide +kernel
theorem dL_bears_99 : decode cL_bears 99 = .ok (.bipush 8, 2) := by decide +kernel
theorem dL_bears_101 : decode cL_bears 101 = .ok (.iload_n 0, 1) := by decide +kernel
theorem dL_bears_102 : decode cL_bears 102 = .ok (.imul, 1) := by decide +kernel
theorem dL_bears_103 : decode cL_bears 103 = .ok (.bipush 6, 2) := by decide +kernel
theorem dL_bears_105 : decode cL_bears 105 = .ok (.iadd, 1) := by decide +kernel
theorem dL_bears_106 : decode cL_bears 106 = .ok (.iaload, 1) := by decide +kernel
theorem dL_bears_107 : decode cL_bears 107 = .ok (.ifCond .ge 7, 3) := by decide +kernel
theorem dL_bears_110 : decode cL_bears 110 = .ok (.lconst 0, 1) := by decide +kernel
theorem dL_bears_111 : decode cL_bears 111 = .ok (.goto 17, 3) := by decide +kernel
theorem dL_bears_114 : decode cL_bears 114 = .ok (.iload 5, 2) := by decide +kernel
theorem dL_bears_116 : decode cL_bears 116 = .ok (.i2l, 1) := by decide +kernel
theorem dL_bears_117 : decode cL_bears 117 = .ok (.aload_n 2, 1) := by decide +kernel
theorem dL_bears_118 : decode cL_bears 118 = .ok (.bipush 8, 2) := by decide +kernel
theorem dL_bears_120 : decode cL_bears 120 = .ok (.iload_n 0, 1) := by decide +kernel
theorem dL_bears_121 : decode cL_bears 121 = .ok (.imul, 1) := by decide +kernel
theorem dL_bears_122 : decode cL_bears 122 = .ok (.bipush 6, 2) := by decide +kernel
theorem dL_bears_124 : decode cL_bears 124 = .ok (.iadd, 1) := by decide +kernel
theorem dL_bears_125 : decode cL_bears 125 = .ok (.iaload, 1) := by decide +kernel
theorem dL_bears_126 : decode cL_bears 126 = .ok (.i2l, 1) := by decide +kernel
theorem dL_bears_127 : decode cL_bears 127 = .ok (.lmul, 1) := by decide +kernel
theorem dL_bears_128 : decode cL_bears 128 = .ok (.lstore 6, 2) := by decide +kernel
theorem dL_bears_130 : decode cL_bears 130 = .ok (.lload 6, 2) := by decide +kernel
theorem dL_bears_132 : decode cL_bears 132 = .ok (.ldc2_w 36, 3) := by decide +kernel
theorem dL_bears_135 : decode cL_bears 135 = .ok (.ldiv, 1) := by decide +kernel
theorem dL_bears_136 : decode cL_bears 136 = .ok (.l2i, 1) := by decide +kernel
theorem dL_bears_137 : decode cL_bears 137 = .ok (.ireturn, 1) := by decide +kernel
theorem dL_rate_0 : decode cL_rate 0 = .ok (.lconst 0, 1) := by decide +kernel
theorem dL_rate_1 : decode cL_rate 1 = .ok (.lstore_n 1, 1) := by decide +kernel
theorem dL_rate_2 : decode cL_rate 2 = .ok (.lconst 0, 1) := by decide +kernel
theorem dL_rate_3 : decode cL_rate 3 = .ok (.lstore_n 3, 1) := by decide +kernel
theorem dL_rate_4 : decode cL_rate 4 = .ok (.iconst 0, 1) := by decide +kernel
theorem dL_rate_5 : decode cL_rate 5 = .ok (.istore 5, 2) := by decide +kernel
theorem dL_rate_7 : decode cL_rate 7 = .ok (.iload 5, 2) := by decide +kernel
theorem dL_rate_9 : decode cL_rate 9 = .ok (.bipush 6, 2) := by decide +kernel
theorem dL_rate_11 : decode cL_rate 11 = .ok (.if_icmp .ge 34, 3) := by decide +kernel
theorem dL_rate_14 : decode cL_rate 14 = .ok (.lload_n 1, 1) := by decide +kernel
theorem dL_rate_15 : decode cL_rate 15 = .ok (.aload_n 0, 1) := by decide +kernel
theorem dL_rate_16 : decode cL_rate 16 = .ok (.bipush 6, 2) := by decide +kernel
theorem dL_rate_18 : decode cL_rate 18 = .ok (.iload 5, 2) := by decide +kernel
theorem dL_rate_20 : decode cL_rate 20 = .ok (.iadd, 1) := by decide +kernel
theorem dL_rate_21 : decode cL_rate 21 = .ok (.iaload, 1) := by decide +kernel
theorem dL_rate_22 : decode cL_rate 22 = .ok (.i2l, 1) := by decide +kernel
theorem dL_rate_23 : decode cL_rate 23 = .ok (.aload_n 0, 1) := by decide +kernel
theorem dL_rate_24 : decode cL_rate 24 = .ok (.iload 5, 2) := by decide +kernel
theorem dL_rate_26 : decode cL_rate 26 = .ok (.iaload, 1) := by decide +kernel
theorem dL_rate_27 : decode cL_rate 27 = .ok (.i2l, 1) := by decide +kernel
theorem dL_rate_28 : decode cL_rate 28 = .ok (.lmul, 1) := by decide +kernel
theorem dL_rate_29 : decode cL_rate 29 = .ok (.ladd, 1) := by decide +kernel
theorem dL_rate_30 : decode cL_rate 30 = .ok (.lstore_n 1, 1) := by decide +kernel
theorem dL_rate_31 : decode cL_rate 31 = .ok (.lload_n 3, 1) := by decide +kernel
theorem dL_rate_32 : decode cL_rate 32 = .ok (.aload_n 0, 1) := by decide +kernel
theorem dL_rate_33 : decode cL_rate 33 = .ok (.iload 5, 2) := by decide +kernel
theorem dL_rate_35 : decode cL_rate 35 = .ok (.iaload, 1) := by decide +kernel
theorem dL_rate_36 : decode cL_rate 36 = .ok (.i2l, 1) := by decide +kernel
theorem dL_rate_37 : decode cL_rate 37 = .ok (.ladd, 1) := by decide +kernel
theorem dL_rate_38 : decode cL_rate 38 = .ok (.lstore_n 3, 1) := by decide +kernel
theorem dL_rate_39 : decode cL_rate 39 = .ok (.iinc 5 1, 3) := by decide +kernel
theorem dL_rate_42 : decode cL_rate 42 = .ok (.goto (-35), 3) := by decide +kernel
theorem dL_rate_45 : decode cL_rate 45 = .ok (.lload_n 3, 1) := by decide +kernel
theorem dL_rate_46 : decode cL_rate 46 = .ok (.lconst 0, 1) := by decide +kernel
theorem dL_rate_47 : decode cL_rate 47 = .ok (.lcmp, 1) := by decide +kernel
theorem dL_rate_48 : decode cL_rate 48 = .ok (.ifCond .le 10, 3) := by decide +kernel
theorem dL_rate_51 : decode cL_rate 51 = .ok (.lload_n 1, 1) := by decide +kernel
theorem dL_rate_52 : decode cL_rate 52 = .ok (.lload_n 3, 1) := by decide +kernel
theorem dL_rate_53 : decode cL_rate 53 = .ok (.ldiv, 1) := by decide +kernel
theorem dL_rate_54 : decode cL_rate 54 = .ok (.l2i, 1) := by decide +kernel
theorem dL_rate_55 : decode cL_rate 55 = .ok (.goto 4, 3) := by decide +kernel
theorem dL_rate_58 : decode cL_rate 58 = .ok (.iconst 0, 1) := by decide +kernel
theorem dL_rate_59 : decode cL_rate 59 = .ok (.ireturn, 1) := by decide +kernel
theorem dL_lay_0 : decode cL_lay 0 = .ok (.aload_n 2, 1) := by decide +kernel
theorem dL_lay_1 : decode cL_lay 1 = .ok (.iconst 5, 1) := by decide +kernel
theorem dL_lay_2 : decode cL_lay 2 = .ok (.iaload, 1) := by decide +kernel
theorem dL_lay_3 : decode cL_lay 3 = .ok (.i2l, 1) := by decide +kernel
theorem dL_lay_4 : decode cL_lay 4 = .ok (.aload_n 2, 1) := by decide +kernel
theorem dL_lay_5 : decode cL_lay 5 = .ok (.bipush 6, 2) := by decide +kernel
theorem dL_lay_7 : decode cL_lay 7 = .ok (.iaload, 1) := by decide +kernel
theorem dL_lay_8 : decode cL_lay 8 = .ok (.i2l, 1) := by decide +kernel
theorem dL_lay_9 : decode cL_lay 9 = .ok (.ladd, 1) := by decide +kernel
theorem dL_lay_10 : decode cL_lay 10 = .ok (.aload_n 2, 1) := by decide +kernel
theorem dL_lay_11 : decode cL_lay 11 = .ok (.bipush 7, 2) := by decide +kernel
theorem dL_lay_13 : decode cL_lay 13 = .ok (.iaload, 1) := by decide +kernel
theorem dL_lay_14 : decode cL_lay 14 = .ok (.i2l, 1) := by decide +kernel
theorem dL_lay_15 : decode cL_lay 15 = .ok (.ladd, 1) := by decide +kernel
theorem dL_lay_16 : decode cL_lay 16 = .ok (.lstore_n 3, 1) := by decide +kernel
theorem dL_lay_17 : decode cL_lay 17 = .ok (.aload_n 1, 1) := by decide +kernel
theorem dL_lay_18 : decode cL_lay 18 = .ok (.iload_n 0, 1) := by decide +kernel
theorem dL_lay_19 : decode cL_lay 19 = .ok (.lload_n 3, 1) := by decide +kernel
theorem dL_lay_20 : decode cL_lay 20 = .ok (.aload_n 2, 1) := by decide +kernel
theorem dL_lay_21 : decode cL_lay 21 = .ok (.iconst 4, 1) := by decide +kernel
theorem dL_lay_22 : decode cL_lay 22 = .ok (.iaload, 1) := by decide +kernel
theorem dL_lay_23 : decode cL_lay 23 = .ok (.i2l, 1) := by decide +kernel
theorem dL_lay_24 : decode cL_lay 24 = .ok (.lmul, 1) := by decide +kernel
theorem dL_lay_25 : decode cL_lay 25 = .ok (.ldc2_w 38, 3) := by decide +kernel
theorem dL_lay_28 : decode cL_lay 28 = .ok (.ldiv, 1) := by decide +kernel
theorem dL_lay_29 : decode cL_lay 29 = .ok (.l2i, 1) := by decide +kernel
theorem dL_lay_30 : decode cL_lay 30 = .ok (.bipush 6, 2) := by decide +kernel
theorem dL_lay_32 : decode cL_lay 32 = .ok (.idiv, 1) := by decide +kernel
theorem dL_lay_33 : decode cL_lay 33 = .ok (.iastore, 1) := by decide +kernel
theorem dL_lay_34 : decode cL_lay 34 = .ok (.aload_n 1, 1) := by decide +kernel
theorem dL_lay_35 : decode cL_lay 35 = .ok (.bipush 6, 2) := by decide +kernel
theorem dL_lay_37 : decode cL_lay 37 = .ok (.iload_n 0, 1) := by decide +kernel
theorem dL_lay_38 : decode cL_lay 38 = .ok (.iadd, 1) := by decide +kernel
theorem dL_lay_39 : decode cL_lay 39 = .ok (.aload_n 2, 1) := by decide +kernel
theorem dL_lay_40 : decode cL_lay 40 = .ok (.bipush 13, 2) := by decide +kernel
theorem dL_lay_42 : decode cL_lay 42 = .ok (.iaload, 1) := by decide +kernel
theorem dL_lay_43 : decode cL_lay 43 = .ok (.iastore, 1) := by decide +kernel
theorem dL_lay_44 : decode cL_lay 44 = .ok (.return_, 1) := by decide +kernel
set_option maxRecDepth 20000 in
theorem ggL_branch_L_rate : GoodIn wsL_branch wsL_rate := goodIn_r _ [6] (by decide +kernel) (by decide +kernel)
set_option maxRecDepth 20000 in
theorem gL_branch_L_rate : GoodIn wsL_branch (va_wsS RL 40 yL_rate wsL_rate) := goodIn_app (goodIn_of _ (by decide +kernel)) ggL_branch_L_rate
theorem dL_branch_0 : decode cL_branch 0 = .ok (.aload_n 2, 1) := by decide +kernel
theorem dL_branch_1 : decode cL_branch 1 = .ok (.iconst 5, 1) := by decide +kernel
theorem dL_branch_2 : decode cL_branch 2 = .ok (.iload_n 0, 1) := by decide +kernel
theorem dL_branch_3 : decode cL_branch 3 = .ok (.iadd, 1) := by decide +kernel
theorem dL_branch_4 : decode cL_branch 4 = .ok (.iaload, 1) := by decide +kernel
theorem dL_branch_5 : decode cL_branch 5 = .ok (.i2l, 1) := by decide +kernel
theorem dL_branch_6 : decode cL_branch 6 = .ok (.lstore_n 3, 1) := by decide +kernel
theorem dL_branch_7 : decode cL_branch 7 = .ok (.lload_n 3, 1) := by decide +kernel
theorem dL_branch_8 : decode cL_branch 8 = .ok (.aload_n 2, 1) := by decide +kernel
theorem dL_branch_9 : decode cL_branch 9 = .ok (.iconst 4, 1) := by decide +kernel
theorem dL_branch_10 : decode cL_branch 10 = .ok (.iaload, 1) := by decide +kernel
theorem dL_branch_11 : decode cL_branch 11 = .ok (.i2l, 1) := by decide +kernel
theorem dL_branch_12 : decode cL_branch 12 = .ok (.lmul, 1) := by decide +kernel
theorem dL_branch_13 : decode cL_branch 13 = .ok (.ldc2_w 38, 3) := by decide +kernel
theorem dL_branch_16 : decode cL_branch 16 = .ok (.ldiv, 1) := by decide +kernel
theorem dL_branch_17 : decode cL_branch 17 = .ok (.lstore 5, 2) := by decide +kernel
theorem dL_branch_19 : decode cL_branch 19 = .ok (.lload 5, 2) := by decide +kernel
theorem dL_branch_21 : decode cL_branch 21 = .ok (.aload_n 1, 1) := by decide +kernel
theorem dL_branch_22 : decode cL_branch 22 = .ok (.invokestatic 40, 3) := by decide +kernel
theorem dL_branch_25 : decode cL_branch 25 = .ok (.i2l, 1) := by decide +kernel
theorem dL_branch_26 : decode cL_branch 26 = .ok (.lmul, 1) := by decide +kernel
theorem dL_branch_27 : decode cL_branch 27 = .ok (.lload_n 3, 1) := by decide +kernel
theorem dL_branch_28 : decode cL_branch 28 = .ok (.lload 5, 2) := by decide +kernel
theorem dL_branch_30 : decode cL_branch 30 = .ok (.lsub, 1) := by decide +kernel
theorem dL_branch_31 : decode cL_branch 31 = .ok (.aload_n 2, 1) := by decide +kernel
theorem dL_branch_32 : decode cL_branch 32 = .ok (.bipush 8, 2) := by decide +kernel
theorem dL_branch_34 : decode cL_branch 34 = .ok (.iaload, 1) := by decide +kernel
theorem dL_branch_35 : decode cL_branch 35 = .ok (.i2l, 1) := by decide +kernel
theorem dL_branch_36 : decode cL_branch 36 = .ok (.lmul, 1) := by decide +kernel
theorem dL_branch_37 : decode cL_branch 37 = .ok (.ladd, 1) := by decide +kernel
theorem dL_branch_38 : decode cL_branch 38 = .ok (.ldc2_w 36, 3) := by decide +kernel
theorem dL_branch_41 : decode cL_branch 41 = .ok (.ldiv, 1) := by decide +kernel
theorem dL_branch_42 : decode cL_branch 42 = .ok (.l2i, 1) := by decide +kernel
theorem dL_branch_43 : decode cL_branch 43 = .ok (.ireturn, 1) := by decide +kernel
set_option maxRecDepth 20000 in
theorem ggL_closes_L_branch : GoodIn wsL_closes wsL_branch := goodIn_r _ [5, 6, 1, 7, 8, 4, 9] (by decide +kernel) (by decide +kernel)
set_option maxRecDepth 20000 in
theorem gL_closes_L_branch : GoodIn wsL_closes (va_wsS RL 44 yL_branch wsL_branch) := goodIn_app (goodIn_of _ (by decide +kernel)) ggL_closes_L_branch
set_option maxRecDepth 20000 in
theorem ggL_closes_L_bears : GoodIn wsL_closes wsL_bears := goodIn_r _ [12, 1, 13, 14, 4, 15, 16, 17, 18] (by decide +kernel) (by decide +kernel)
set_option maxRecDepth 20000 in
theorem gL_closes_L_bears : GoodIn wsL_closes (va_wsS RL 47 yL_bears wsL_bears) := goodIn_app (goodIn_of _ (by decide +kernel)) ggL_closes_L_bears
set_option maxRecDepth 20000 in
theorem ggL_closes_L_lay : GoodIn wsL_closes wsL_lay := goodIn_r _ [21, 6] (by decide +kernel) (by decide +kernel)
set_option maxRecDepth 20000 in
theorem gL_closes_L_lay : GoodIn wsL_closes (va_wsS RL 51 yL_lay wsL_lay) := goodIn_app (goodIn_of _ (by decide +kernel)) ggL_closes_L_lay
theorem dL_closes_0 : decode cL_closes 0 = .ok (.bipush 8, 2) := by decide +kernel
theorem dL_closes_2 : decode cL_closes 2 = .ok (.aload 4, 2) := by decide +kernel
theorem dL_closes_4 : decode cL_closes 4 = .ok (.iconst 0, 1) := by decide +kernel
theorem dL_closes_5 : decode cL_closes 5 = .ok (.iaload, 1) := by decide +kernel
theorem dL_closes_6 : decode cL_closes 6 = .ok (.bipush 8, 2) := by decide +kernel
theorem dL_closes_8 : decode cL_closes 8 = .ok (.irem, 1) := by decide +kernel
theorem dL_closes_9 : decode cL_closes 9 = .ok (.imul, 1) := by decide +kernel
theorem dL_closes_10 : decode cL_closes 10 = .ok (.istore 5, 2) := by decide +kernel
theorem dL_closes_12 : decode cL_closes 12 = .ok (.iconst 0, 1) := by decide +kernel
theorem dL_closes_13 : decode cL_closes 13 = .ok (.istore 6, 2) := by decide +kernel
theorem dL_closes_15 : decode cL_closes 15 = .ok (.iload 6, 2) := by decide +kernel
theorem dL_closes_17 : decode cL_closes 17 = .ok (.bipush 8, 2) := by decide +kernel
theorem dL_closes_19 : decode cL_closes 19 = .ok (.if_icmp .ge 17, 3) := by decide +kernel
theorem dL_closes_22 : decode cL_closes 22 = .ok (.aload_n 3, 1) := by decide +kernel
theorem dL_closes_23 : decode cL_closes 23 = .ok (.iload 5, 2) := by decide +kernel
theorem dL_closes_25 : decode cL_closes 25 = .ok (.iload 6, 2) := by decide +kernel
theorem dL_closes_27 : decode cL_closes 27 = .ok (.iadd, 1) := by decide +kernel
theorem dL_closes_28 : decode cL_closes 28 = .ok (.iconst 0, 1) := by decide +kernel
theorem dL_closes_29 : decode cL_closes 29 = .ok (.iastore, 1) := by decide +kernel
theorem dL_closes_30 : decode cL_closes 30 = .ok (.iinc 6 1, 3) := by decide +kernel
theorem dL_closes_33 : decode cL_closes 33 = .ok (.goto (-18), 3) := by decide +kernel
theorem dL_closes_36 : decode cL_closes 36 = .ok (.iconst 0, 1) := by decide +kernel
theorem dL_closes_37 : decode cL_closes 37 = .ok (.istore 6, 2) := by decide +kernel
theorem dL_closes_39 : decode cL_closes 39 = .ok (.iload 6, 2) := by decide +kernel
theorem dL_closes_41 : decode cL_closes 41 = .ok (.iconst 3, 1) := by decide +kernel
theorem dL_closes_42 : decode cL_closes 42 = .ok (.if_icmp .ge 76, 3) := by decide +kernel
theorem dL_closes_45 : decode cL_closes 45 = .ok (.iload 6, 2) := by decide +kernel
theorem dL_closes_47 : decode cL_closes 47 = .ok (.aload_n 2, 1) := by decide +kernel
theorem dL_closes_48 : decode cL_closes 48 = .ok (.aload 4, 2) := by decide +kernel
theorem dL_closes_50 : decode cL_closes 50 = .ok (.invokestatic 44, 3) := by decide +kernel
theorem dL_closes_53 : decode cL_closes 53 = .ok (.istore 7, 2) := by decide +kernel
theorem dL_closes_55 : decode cL_closes 55 = .ok (.aload 4, 2) := by decide +kernel
theorem dL_closes_57 : decode cL_closes 57 = .ok (.iconst 5, 1) := by decide +kernel
theorem dL_closes_58 : decode cL_closes 58 = .ok (.iload 6, 2) := by decide +kernel
theorem dL_closes_60 : decode cL_closes 60 = .ok (.iadd, 1) := by decide +kernel
theorem dL_closes_61 : decode cL_closes 61 = .ok (.iaload, 1) := by decide +kernel
theorem dL_closes_62 : decode cL_closes 62 = .ok (.i2l, 1) := by decide +kernel
theorem dL_closes_63 : decode cL_closes 63 = .ok (.aload 4, 2) := by decide +kernel
theorem dL_closes_65 : decode cL_closes 65 = .ok (.iconst 2, 1) := by decide +kernel
theorem dL_closes_66 : decode cL_closes 66 = .ok (.iaload, 1) := by decide +kernel
theorem dL_closes_67 : decode cL_closes 67 = .ok (.i2l, 1) := by decide +kernel
theorem dL_closes_68 : decode cL_closes 68 = .ok (.lmul, 1) := by decide +kernel
theorem dL_closes_69 : decode cL_closes 69 = .ok (.ldc2_w 36, 3) := by decide +kernel
theorem dL_closes_72 : decode cL_closes 72 = .ok (.ldiv, 1) := by decide +kernel
theorem dL_closes_73 : decode cL_closes 73 = .ok (.l2i, 1) := by decide +kernel
theorem dL_closes_74 : decode cL_closes 74 = .ok (.istore 8, 2) := by decide +kernel
theorem dL_closes_76 : decode cL_closes 76 = .ok (.aload_n 3, 1) := by decide +kernel
theorem dL_closes_77 : decode cL_closes 77 = .ok (.iload 5, 2) := by decide +kernel
theorem dL_closes_79 : decode cL_closes 79 = .ok (.iload 6, 2) := by decide +kernel
theorem dL_closes_81 : decode cL_closes 81 = .ok (.iadd, 1) := by decide +kernel
theorem dL_closes_82 : decode cL_closes 82 = .ok (.iload 7, 2) := by decide +kernel
theorem dL_closes_84 : decode cL_closes 84 = .ok (.iload 8, 2) := by decide +kernel
theorem dL_closes_86 : decode cL_closes 86 = .ok (.isub, 1) := by decide +kernel
theorem dL_closes_87 : decode cL_closes 87 = .ok (.iastore, 1) := by decide +kernel
theorem dL_closes_88 : decode cL_closes 88 = .ok (.aload_n 3, 1) := by decide +kernel
theorem dL_closes_89 : decode cL_closes 89 = .ok (.iload 5, 2) := by decide +kernel
theorem dL_closes_91 : decode cL_closes 91 = .ok (.bipush 6, 2) := by decide +kernel
theorem dL_closes_93 : decode cL_closes 93 = .ok (.iadd, 1) := by decide +kernel
theorem dL_closes_94 : decode cL_closes 94 = .ok (.dup2, 1) := by decide +kernel
theorem dL_closes_95 : decode cL_closes 95 = .ok (.iaload, 1) := by decide +kernel
theorem dL_closes_96 : decode cL_closes 96 = .ok (.iload 7, 2) := by decide +kernel
theorem dL_closes_98 : decode cL_closes 98 = .ok (.isub, 1) := by decide +kernel
theorem dL_closes_99 : decode cL_closes 99 = .ok (.iastore, 1) := by decide +kernel
theorem dL_closes_100 : decode cL_closes 100 = .ok (.aload_n 3, 1) := by decide +kernel
theorem dL_closes_101 : decode cL_closes 101 = .ok (.iload 5, 2) := by decide +kernel
theorem dL_closes_103 : decode cL_closes 103 = .ok (.bipush 7, 2) := by decide +kernel
theorem dL_closes_105 : decode cL_closes 105 = .ok (.iadd, 1) := by decide +kernel
theorem dL_closes_106 : decode cL_closes 106 = .ok (.dup2, 1) := by decide +kernel
theorem dL_closes_107 : decode cL_closes 107 = .ok (.iaload, 1) := by decide +kernel
theorem dL_closes_108 : decode cL_closes 108 = .ok (.iload 8, 2) := by decide +kernel
theorem dL_closes_110 : decode cL_closes 110 = .ok (.isub, 1) := by decide +kernel
theorem dL_closes_111 : decode cL_closes 111 = .ok (.iastore, 1) := by decide +kernel
theorem dL_closes_112 : decode cL_closes 112 = .ok (.iinc 6 1, 3) := by decide +kernel
theorem dL_closes_115 : decode cL_closes 115 = .ok (.goto (-76), 3) := by decide +kernel
theorem dL_closes_118 : decode cL_closes 118 = .ok (.iconst 0, 1) := by decide +kernel
theorem dL_closes_119 : decode cL_closes 119 = .ok (.istore 6, 2) := by decide +kernel
theorem dL_closes_121 : decode cL_closes 121 = .ok (.iload 6, 2) := by decide +kernel
theorem dL_closes_123 : decode cL_closes 123 = .ok (.aload 4, 2) := by decide +kernel
theorem dL_closes_125 : decode cL_closes 125 = .ok (.iconst 1, 1) := by decide +kernel
theorem dL_closes_126 : decode cL_closes 126 = .ok (.iaload, 1) := by decide +kernel
theorem dL_closes_127 : decode cL_closes 127 = .ok (.if_icmp .ge 112, 3) := by decide +kernel
theorem dL_closes_130 : decode cL_closes 130 = .ok (.iload 6, 2) := by decide +kernel
theorem dL_closes_132 : decode cL_closes 132 = .ok (.iconst 0, 1) := by decide +kernel
theorem dL_closes_133 : decode cL_closes 133 = .ok (.aload_n 0, 1) := by decide +kernel
theorem dL_closes_134 : decode cL_closes 134 = .ok (.aload_n 1, 1) := by decide +kernel
theorem dL_closes_135 : decode cL_closes 135 = .ok (.aload 4, 2) := by decide +kernel
theorem dL_closes_137 : decode cL_closes 137 = .ok (.invokestatic 47, 3) := by decide +kernel
theorem dL_closes_140 : decode cL_closes 140 = .ok (.istore 7, 2) := by decide +kernel
theorem dL_closes_142 : decode cL_closes 142 = .ok (.iload 6, 2) := by decide +kernel
theorem dL_closes_144 : decode cL_closes 144 = .ok (.iconst 1, 1) := by decide +kernel
theorem dL_closes_145 : decode cL_closes 145 = .ok (.aload_n 0, 1) := by decide +kernel
theorem dL_closes_146 : decode cL_closes 146 = .ok (.aload_n 1, 1) := by decide +kernel
theorem dL_closes_147 : decode cL_closes 147 = .ok (.aload 4, 2) := by decide +kernel
theorem dL_closes_149 : decode cL_closes 149 = .ok (.invokestatic 47, 3) := by decide +kernel
theorem dL_closes_152 : decode cL_closes 152 = .ok (.iload 6, 2) := by decide +kernel
theorem dL_closes_154 : decode cL_closes 154 = .ok (.iconst 2, 1) := by decide +kernel
theorem dL_closes_155 : decode cL_closes 155 = .ok (.aload_n 0, 1) := by decide +kernel
theorem dL_closes_156 : decode cL_closes 156 = .ok (.aload_n 1, 1) := by decide +kernel
theorem dL_closes_157 : decode cL_closes 157 = .ok (.aload 4, 2) := by decide +kernel
theorem dL_closes_159 : decode cL_closes 159 = .ok (.invokestatic 47, 3) := by decide +kernel
theorem dL_closes_162 : decode cL_closes 162 = .ok (.iadd, 1) := by decide +kernel
theorem dL_closes_163 : decode cL_closes 163 = .ok (.istore 8, 2) := by decide +kernel
theorem dL_closes_165 : decode cL_closes 165 = .ok (.aload_n 3, 1) := by decide +kernel
theorem dL_closes_166 : decode cL_closes 166 = .ok (.iload 5, 2) := by decide +kernel
theorem dL_closes_168 : decode cL_closes 168 = .ok (.aload_n 0, 1) := by decide +kernel
theorem dL_closes_169 : decode cL_closes 169 = .ok (.bipush 8, 2) := by decide +kernel
theorem dL_closes_171 : decode cL_closes 171 = .ok (.iload 6, 2) := by decide +kernel
theorem dL_closes_173 : decode cL_closes 173 = .ok (.imul, 1) := by decide +kernel
theorem dL_closes_174 : decode cL_closes 174 = .ok (.iaload, 1) := by decide +kernel
theorem dL_closes_175 : decode cL_closes 175 = .ok (.iadd, 1) := by decide +kernel
theorem dL_closes_176 : decode cL_closes 176 = .ok (.dup2, 1) := by decide +kernel
theorem dL_closes_177 : decode cL_closes 177 = .ok (.iaload, 1) := by decide +kernel
theorem dL_closes_178 : decode cL_closes 178 = .ok (.iload 7, 2) := by decide +kernel
theorem dL_closes_180 : decode cL_closes 180 = .ok (.iload 8, 2) := by decide +kernel
theorem dL_closes_182 : decode cL_closes 182 = .ok (.isub, 1) := by decide +kernel
theorem dL_closes_183 : decode cL_closes 183 = .ok (.iadd, 1) := by decide +kernel
theorem dL_closes_184 : decode cL_closes 184 = .ok (.iastore, 1) := by decide +kernel
theorem dL_closes_185 : decode cL_closes 185 = .ok (.aload_n 3, 1) := by decide +kernel
theorem dL_closes_186 : decode cL_closes 186 = .ok (.iload 5, 2) := by decide +kernel
theorem dL_closes_188 : decode cL_closes 188 = .ok (.iconst 3, 1) := by decide +kernel
theorem dL_closes_189 : decode cL_closes 189 = .ok (.iadd, 1) := by decide +kernel
theorem dL_closes_190 : decode cL_closes 190 = .ok (.aload_n 0, 1) := by decide +kernel
theorem dL_closes_191 : decode cL_closes 191 = .ok (.bipush 8, 2) := by decide +kernel
theorem dL_closes_193 : decode cL_closes 193 = .ok (.iload 6, 2) := by decide +kernel
theorem dL_closes_195 : decode cL_closes 195 = .ok (.imul, 1) := by decide +kernel
theorem dL_closes_196 : decode cL_closes 196 = .ok (.iconst 1, 1) := by decide +kernel
theorem dL_closes_197 : decode cL_closes 197 = .ok (.iadd, 1) := by decide +kernel
theorem dL_closes_198 : decode cL_closes 198 = .ok (.iaload, 1) := by decide +kernel
theorem dL_closes_199 : decode cL_closes 199 = .ok (.iadd, 1) := by decide +kernel
theorem dL_closes_200 : decode cL_closes 200 = .ok (.dup2, 1) := by decide +kernel
theorem dL_closes_201 : decode cL_closes 201 = .ok (.iaload, 1) := by decide +kernel
theorem dL_closes_202 : decode cL_closes 202 = .ok (.iload 7, 2) := by decide +kernel
theorem dL_closes_204 : decode cL_closes 204 = .ok (.iload 8, 2) := by decide +kernel
theorem dL_closes_206 : decode cL_closes 206 = .ok (.isub, 1) := by decide +kernel
theorem dL_closes_207 : decode cL_closes 207 = .ok (.iadd, 1) := by decide +kernel
theorem dL_closes_208 : decode cL_closes 208 = .ok (.iastore, 1) := by decide +kernel
theorem dL_closes_209 : decode cL_closes 209 = .ok (.aload_n 3, 1) := by decide +kernel
theorem dL_closes_210 : decode cL_closes 210 = .ok (.iload 5, 2) := by decide +kernel
theorem dL_closes_212 : decode cL_closes 212 = .ok (.bipush 6, 2) := by decide +kernel
theorem dL_closes_214 : decode cL_closes 214 = .ok (.iadd, 1) := by decide +kernel
theorem dL_closes_215 : decode cL_closes 215 = .ok (.dup2, 1) := by decide +kernel
theorem dL_closes_216 : decode cL_closes 216 = .ok (.iaload, 1) := by decide +kernel
theorem dL_closes_217 : decode cL_closes 217 = .ok (.iload 8, 2) := by decide +kernel
theorem dL_closes_219 : decode cL_closes 219 = .ok (.iadd, 1) := by decide +kernel
theorem dL_closes_220 : decode cL_closes 220 = .ok (.iastore, 1) := by decide +kernel
theorem dL_closes_221 : decode cL_closes 221 = .ok (.aload_n 3, 1) := by decide +kernel
theorem dL_closes_222 : decode cL_closes 222 = .ok (.iload 5, 2) := by decide +kernel
theorem dL_closes_224 : decode cL_closes 224 = .ok (.bipush 7, 2) := by decide +kernel
theorem dL_closes_226 : decode cL_closes 226 = .ok (.iadd, 1) := by decide +kernel
theorem dL_closes_227 : decode cL_closes 227 = .ok (.dup2, 1) := by decide +kernel
theorem dL_closes_228 : decode cL_closes 228 = .ok (.iaload, 1) := by decide +kernel
theorem dL_closes_229 : decode cL_closes 229 = .ok (.iload 7, 2) := by decide +kernel
theorem dL_closes_231 : decode cL_closes 231 = .ok (.iadd, 1) := by decide +kernel
theorem dL_closes_232 : decode cL_closes 232 = .ok (.iastore, 1) := by decide +kernel
theorem dL_closes_233 : decode cL_closes 233 = .ok (.iinc 6 1, 3) := by decide +kernel
theorem dL_closes_236 : decode cL_closes 236 = .ok (.goto (-115), 3) := by decide +kernel
theorem dL_closes_239 : decode cL_closes 239 = .ok (.aload 4, 2) := by decide +kernel
theorem dL_closes_241 : decode cL_closes 241 = .ok (.iconst 0, 1) := by decide +kernel
theorem dL_closes_242 : decode cL_closes 242 = .ok (.dup2, 1) := by decide +kernel
theorem dL_closes_243 : decode cL_closes 243 = .ok (.iaload, 1) := by decide +kernel
theorem dL_closes_244 : decode cL_closes 244 = .ok (.iconst 1, 1) := by decide +kernel
theorem dL_closes_245 : decode cL_closes 245 = .ok (.iadd, 1) := by decide +kernel
theorem dL_closes_246 : decode cL_closes 246 = .ok (.iastore, 1) := by decide +kernel
theorem dL_closes_247 : decode cL_closes 247 = .ok (.aload 4, 2) := by decide +kernel
theorem dL_closes_249 : decode cL_closes 249 = .ok (.iconst 0, 1) := by decide +kernel
theorem dL_closes_250 : decode cL_closes 250 = .ok (.iaload, 1) := by decide +kernel
theorem dL_closes_251 : decode cL_closes 251 = .ok (.bipush 6, 2) := by decide +kernel
theorem dL_closes_253 : decode cL_closes 253 = .ok (.irem, 1) := by decide +kernel
theorem dL_closes_254 : decode cL_closes 254 = .ok (.aload_n 2, 1) := by decide +kernel
theorem dL_closes_255 : decode cL_closes 255 = .ok (.aload 4, 2) := by decide +kernel
theorem dL_closes_257 : decode cL_closes 257 = .ok (.invokestatic 51, 3) := by decide +kernel
theorem dL_closes_260 : decode cL_closes 260 = .ok (.return_, 1) := by decide +kernel
end
section
set_option maxRecDepth 20000 in
theorem ggL_isSo_X2_month : GoodIn wsL_isSo wsX2_month := goodIn_r _ [5, 6, 122, 123, 124, 125, 126, 127, 128, 129, 130, 131, 132, 133, 134] (by decide +kernel) (by decide +kernel)
set_option maxRecDepth 20000 in
theorem gL_isSo_X2_month : GoodIn wsL_isSo (wsV RL 55 RX2 yX2_month wsX2_month) := goodIn_app (goodIn_of _ (by decide +kernel)) ggL_isSo_X2_month
set_option maxRecDepth 20000 in
theorem ggL_isSo_X2_loans : GoodIn wsL_isSo wsX2_loans := goodIn_r _ [10, 11, 122, 123, 124, 125, 126, 127, 128, 129, 130, 131, 132, 133, 134] (by decide +kernel) (by decide +kernel)
set_option maxRecDepth 20000 in
theorem gL_isSo_X2_loans : GoodIn wsL_isSo (wsV RL 58 RX2 yX2_loans wsX2_loans) := goodIn_app (goodIn_of _ (by decide +kernel)) ggL_isSo_X2_loans
set_option maxRecDepth 20000 in
theorem ggL_isSo_X2_replicaRate : GoodIn wsL_isSo wsX2_replicaRate := goodIn_r _ [15, 16, 17, 18, 19, 20, 21, 22, 122, 123, 124, 125, 126, 127, 128, 129, 130, 131, 132, 133, 134, 135, 136] (by decide +kernel) (by decide +kernel)
set_option maxRecDepth 20000 in
theorem gL_isSo_X2_replicaRate : GoodIn wsL_isSo (wsV RL 61 RX2 yX2_replicaRate wsX2_replicaRate) := goodIn_app (goodIn_of _ (by decide +kernel)) ggL_isSo_X2_replicaRate
set_option maxRecDepth 20000 in
theorem ggL_isSo_L_rate : GoodIn wsL_isSo wsL_rate := goodIn_r _ [26] (by decide +kernel) (by decide +kernel)
set_option maxRecDepth 20000 in
theorem gL_isSo_L_rate : GoodIn wsL_isSo (va_wsS RL 40 yL_rate wsL_rate) := goodIn_app (goodIn_of _ (by decide +kernel)) ggL_isSo_L_rate
set_option maxRecDepth 20000 in
theorem ggL_isSo_L_bears : GoodIn wsL_isSo wsL_bears := goodIn_r _ [29, 30, 31, 32, 25, 33, 34, 35, 36] (by decide +kernel) (by decide +kernel)
set_option maxRecDepth 20000 in
theorem gL_isSo_L_bears : GoodIn wsL_isSo (va_wsS RL 47 yL_bears wsL_bears) := goodIn_app (goodIn_of _ (by decide +kernel)) ggL_isSo_L_bears
set_option maxRecDepth 20000 in
theorem ggL_isSo_X2_left : GoodIn wsL_isSo wsX2_left := goodIn_ca (goodIn_r _ [40, 41, 42, 43, 44, 45, 4, 46, 47, 48, 49, 50, 51, 52, 53, 122, 123, 124, 125, 126, 127, 128, 129, 130, 131, 132, 133, 134, 137, 138, 139, 140, 141, 142, 143, 144] (by decide +kernel) (by decide +kernel)) (goodIn_sub (fun _ h => List.mem_cons_of_mem _ (List.mem_append_left _ (List.mem_append_right _ h))) (by decide +kernel))
set_option maxRecDepth 20000 in
theorem gL_isSo_X2_left : GoodIn wsL_isSo (wsV RL 64 RX2 yX2_left wsX2_left) := goodIn_app (goodIn_of _ (by decide +kernel)) ggL_isSo_X2_left
set_option maxRecDepth 20000 in
theorem ggL_isSo_L_left : GoodIn wsL_isSo wsL_left := goodIn_r _ [33, 34, 35, 25, 36] (by decide +kernel) (by decide +kernel)
set_option maxRecDepth 20000 in
theorem gL_isSo_L_left : GoodIn wsL_isSo (va_wsS RL 32 yL_left wsL_left) := goodIn_app (goodIn_of _ (by decide +kernel)) ggL_isSo_L_left
set_option maxRecDepth 20000 in
theorem ggL_isSo_X2_bears : GoodIn wsL_isSo wsX2_bears := goodIn_ca (goodIn_ca (goodIn_r _ [57, 41, 42, 58, 59, 43, 44, 45, 4, 46, 47, 60, 49, 61, 62, 63, 64, 48, 50, 51, 52, 53, 65, 66, 67, 68, 69, 70, 71, 72, 73, 74, 75, 76, 77, 78, 79, 80, 81, 122, 123, 124, 125, 126, 127, 128, 129, 130, 131, 132, 133, 134, 137, 138, 139, 140, 141, 142, 143, 144] (by decide +kernel) (by decide +kernel)) (goodIn_sub (fun _ h => List.mem_cons_of_mem _ (List.mem_append_left _ (List.mem_append_right _ h))) (by decide +kernel))) (goodIn_sub (fun _ h => List.mem_cons_of_mem _ (List.mem_append_right _ h)) (by decide +kernel))
set_option maxRecDepth 20000 in
theorem gL_isSo_X2_bears : GoodIn wsL_isSo (wsV RL 66 RX2 yX2_bears wsX2_bears) := goodIn_app (goodIn_of _ (by decide +kernel)) ggL_isSo_X2_bears
set_option maxRecDepth 20000 in
theorem ggL_isSo_L_part : GoodIn wsL_isSo wsL_part := goodIn_r _ [36] (by decide +kernel) (by decide +kernel)
set_option maxRecDepth 20000 in
theorem gL_isSo_L_part : GoodIn wsL_isSo (va_wsS RL 26 yL_part wsL_part) := goodIn_app (goodIn_of _ (by decide +kernel)) ggL_isSo_L_part
set_option maxRecDepth 20000 in
theorem ggL_isSo_X2_due : GoodIn wsL_isSo wsX2_due := goodIn_ca (goodIn_r _ [85, 58, 59, 47, 86, 49, 87, 88, 52, 53, 122, 123, 124, 125, 126, 127, 128, 129, 130, 131, 132, 133, 134, 137, 138, 139, 140, 141, 142, 143, 144] (by decide +kernel) (by decide +kernel)) (goodIn_sub (fun _ h => List.mem_cons_of_mem _ (List.mem_append_right _ h)) (by decide +kernel))
set_option maxRecDepth 20000 in
theorem gL_isSo_X2_due : GoodIn wsL_isSo (wsV RL 68 RX2 yX2_due wsX2_due) := goodIn_app (goodIn_of _ (by decide +kernel)) ggL_isSo_X2_due
set_option maxRecDepth 20000 in
theorem ggL_isSo_X2_tranche : GoodIn wsL_isSo wsX2_tranche := goodIn_ca (goodIn_r _ [92, 41, 42, 16, 122, 123, 124, 125, 126, 127, 128, 129, 130, 131, 132, 133, 134, 135, 136] (by decide +kernel) (by decide +kernel)) (goodIn_sub (fun _ h => List.mem_cons_of_mem _ (List.mem_append_left _ (List.mem_append_right _ h))) (by decide +kernel))
set_option maxRecDepth 20000 in
theorem gL_isSo_X2_tranche : GoodIn wsL_isSo (wsV RL 71 RX2 yX2_tranche wsX2_tranche) := goodIn_app (goodIn_of _ (by decide +kernel)) ggL_isSo_X2_tranche
set_option maxRecDepth 20000 in
theorem ggL_isSo_X2_balance : GoodIn wsL_isSo wsX2_balance := goodIn_ca (goodIn_r _ [96, 41, 42, 97, 122, 123, 124, 125, 126, 127, 128, 129, 130, 131, 132, 133, 134] (by decide +kernel) (by decide +kernel)) (goodIn_sub (fun _ h => List.mem_cons_of_mem _ (List.mem_append_left _ (List.mem_append_right _ h))) (by decide +kernel))
set_option maxRecDepth 20000 in
theorem gL_isSo_X2_balance : GoodIn wsL_isSo (wsV RL 74 RX2 yX2_balance wsX2_balance) := goodIn_app (goodIn_of _ (by decide +kernel)) ggL_isSo_X2_balance
set_option maxRecDepth 20000 in
theorem ggL_isSo_X2_margin : GoodIn wsL_isSo wsX2_margin := goodIn_ca (goodIn_r _ [101, 41, 42, 102, 103, 104, 105, 4, 106, 6, 122, 123, 124, 125, 126, 127, 128, 129, 130, 131, 132, 133, 134] (by decide +kernel) (by decide +kernel)) (goodIn_sub (fun _ h => List.mem_cons_of_mem _ (List.mem_append_left _ (List.mem_append_right _ h))) (by decide +kernel))
set_option maxRecDepth 20000 in
theorem gL_isSo_X2_margin : GoodIn wsL_isSo (wsV RL 77 RX2 yX2_margin wsX2_margin) := goodIn_app (goodIn_of _ (by decide +kernel)) ggL_isSo_X2_margin
set_option maxRecDepth 20000 in
theorem ggL_isSo_X2_byProduct : GoodIn wsL_isSo wsX2_byProduct := goodIn_ca (goodIn_r _ [110, 41, 42, 111, 103, 104, 105, 4, 106, 6, 122, 123, 124, 125, 126, 127, 128, 129, 130, 131, 132, 133, 134] (by decide +kernel) (by decide +kernel)) (goodIn_sub (fun _ h => List.mem_cons_of_mem _ (List.mem_append_left _ (List.mem_append_right _ h))) (by decide +kernel))
set_option maxRecDepth 20000 in
theorem gL_isSo_X2_byProduct : GoodIn wsL_isSo (wsV RL 80 RX2 yX2_byProduct wsX2_byProduct) := goodIn_app (goodIn_of _ (by decide +kernel)) ggL_isSo_X2_byProduct
set_option maxRecDepth 20000 in
theorem ggL_isSo_X2_treasury : GoodIn wsL_isSo wsX2_treasury := goodIn_ca (goodIn_r _ [115, 41, 42, 116, 103, 104, 105, 4, 106, 6, 122, 123, 124, 125, 126, 127, 128, 129, 130, 131, 132, 133, 134] (by decide +kernel) (by decide +kernel)) (goodIn_sub (fun _ h => List.mem_cons_of_mem _ (List.mem_append_left _ (List.mem_append_right _ h))) (by decide +kernel))
set_option maxRecDepth 20000 in
theorem gL_isSo_X2_treasury : GoodIn wsL_isSo (wsV RL 83 RX2 yX2_treasury wsX2_treasury) := goodIn_app (goodIn_of _ (by decide +kernel)) ggL_isSo_X2_treasury
set_option maxRecDepth 20000 in
theorem ggL_isSo_X2_interest : GoodIn wsL_isSo wsX2_interest := goodIn_ca (goodIn_r _ [120, 41, 42, 121, 103, 104, 105, 4, 106, 6, 122, 123, 124, 125, 126, 127, 128, 129, 130, 131, 132, 133, 134] (by decide +kernel) (by decide +kernel)) (goodIn_sub (fun _ h => List.mem_cons_of_mem _ (List.mem_append_left _ (List.mem_append_right _ h))) (by decide +kernel))
set_option maxRecDepth 20000 in
theorem gL_isSo_X2_interest : GoodIn wsL_isSo (wsV RL 86 RX2 yX2_interest wsX2_interest) := goodIn_app (goodIn_of _ (by decide +kernel)) ggL_isSo_X2_interest
theorem dL_isSo_0 : decode cL_isSo 0 = .ok (.aload_n 0, 1) := by decide +kernel
theorem dL_isSo_1 : decode cL_isSo 1 = .ok (.invokevirtual 55, 3) := by decide +kernel
theorem dL_isSo_4 : decode cL_isSo 4 = .ok (.aload 5, 2) := by decide +kernel
theorem dL_isSo_6 : decode cL_isSo 6 = .ok (.iconst 0, 1) := by decide +kernel
theorem dL_isSo_7 : decode cL_isSo 7 = .ok (.iaload, 1) := by decide +kernel
theorem dL_isSo_8 : decode cL_isSo 8 = .ok (.if_icmp .ne 29, 3) := by decide +kernel
theorem dL_isSo_11 : decode cL_isSo 11 = .ok (.aload_n 0, 1) := by decide +kernel
theorem dL_isSo_12 : decode cL_isSo 12 = .ok (.invokevirtual 58, 3) := by decide +kernel
theorem dL_isSo_15 : decode cL_isSo 15 = .ok (.aload 5, 2) := by decide +kernel
theorem dL_isSo_17 : decode cL_isSo 17 = .ok (.iconst 1, 1) := by decide +kernel
theorem dL_isSo_18 : decode cL_isSo 18 = .ok (.iaload, 1) := by decide +kernel
theorem dL_isSo_19 : decode cL_isSo 19 = .ok (.if_icmp .ne 18, 3) := by decide +kernel
theorem dL_isSo_22 : decode cL_isSo 22 = .ok (.aload_n 0, 1) := by decide +kernel
theorem dL_isSo_23 : decode cL_isSo 23 = .ok (.invokevirtual 61, 3) := by decide +kernel
theorem dL_isSo_26 : decode cL_isSo 26 = .ok (.aload_n 3, 1) := by decide +kernel
theorem dL_isSo_27 : decode cL_isSo 27 = .ok (.invokestatic 40, 3) := by decide +kernel
theorem dL_isSo_30 : decode cL_isSo 30 = .ok (.if_icmp .ne 7, 3) := by decide +kernel
theorem dL_isSo_33 : decode cL_isSo 33 = .ok (.iconst 1, 1) := by decide +kernel
theorem dL_isSo_34 : decode cL_isSo 34 = .ok (.goto 4, 3) := by decide +kernel
theorem dL_isSo_37 : decode cL_isSo 37 = .ok (.iconst 0, 1) := by decide +kernel
theorem dL_isSo_38 : decode cL_isSo 38 = .ok (.istore 6, 2) := by decide +kernel
theorem dL_isSo_40 : decode cL_isSo 40 = .ok (.iconst 0, 1) := by decide +kernel
theorem dL_isSo_41 : decode cL_isSo 41 = .ok (.istore 7, 2) := by decide +kernel
theorem dL_isSo_43 : decode cL_isSo 43 = .ok (.iload 7, 2) := by decide +kernel
theorem dL_isSo_45 : decode cL_isSo 45 = .ok (.aload 5, 2) := by decide +kernel
theorem dL_isSo_47 : decode cL_isSo 47 = .ok (.iconst 1, 1) := by decide +kernel
theorem dL_isSo_48 : decode cL_isSo 48 = .ok (.iaload, 1) := by decide +kernel
theorem dL_isSo_49 : decode cL_isSo 49 = .ok (.if_icmp .ge 128, 3) := by decide +kernel
theorem dL_isSo_52 : decode cL_isSo 52 = .ok (.iload 6, 2) := by decide +kernel
theorem dL_isSo_54 : decode cL_isSo 54 = .ok (.ifCond .eq 123, 3) := by decide +kernel
theorem dL_isSo_57 : decode cL_isSo 57 = .ok (.iload 7, 2) := by decide +kernel
theorem dL_isSo_59 : decode cL_isSo 59 = .ok (.iconst 0, 1) := by decide +kernel
theorem dL_isSo_60 : decode cL_isSo 60 = .ok (.aload_n 1, 1) := by decide +kernel
theorem dL_isSo_61 : decode cL_isSo 61 = .ok (.aload_n 2, 1) := by decide +kernel
theorem dL_isSo_62 : decode cL_isSo 62 = .ok (.aload 5, 2) := by decide +kernel
theorem dL_isSo_64 : decode cL_isSo 64 = .ok (.invokestatic 47, 3) := by decide +kernel
theorem dL_isSo_67 : decode cL_isSo 67 = .ok (.istore 8, 2) := by decide +kernel
theorem dL_isSo_69 : decode cL_isSo 69 = .ok (.iload 7, 2) := by decide +kernel
theorem dL_isSo_71 : decode cL_isSo 71 = .ok (.iconst 1, 1) := by decide +kernel
theorem dL_isSo_72 : decode cL_isSo 72 = .ok (.aload_n 1, 1) := by decide +kernel
theorem dL_isSo_73 : decode cL_isSo 73 = .ok (.aload_n 2, 1) := by decide +kernel
theorem dL_isSo_74 : decode cL_isSo 74 = .ok (.aload 5, 2) := by decide +kernel
theorem dL_isSo_76 : decode cL_isSo 76 = .ok (.invokestatic 47, 3) := by decide +kernel
theorem dL_isSo_79 : decode cL_isSo 79 = .ok (.istore 9, 2) := by decide +kernel
theorem dL_isSo_81 : decode cL_isSo 81 = .ok (.iload 7, 2) := by decide +kernel
theorem dL_isSo_83 : decode cL_isSo 83 = .ok (.iconst 2, 1) := by decide +kernel
theorem dL_isSo_84 : decode cL_isSo 84 = .ok (.aload_n 1, 1) := by decide +kernel
theorem dL_isSo_85 : decode cL_isSo 85 = .ok (.aload_n 2, 1) := by decide +kernel
theorem dL_isSo_86 : decode cL_isSo 86 = .ok (.aload 5, 2) := by decide +kernel
theorem dL_isSo_88 : decode cL_isSo 88 = .ok (.invokestatic 47, 3) := by decide +kernel
theorem dL_isSo_91 : decode cL_isSo 91 = .ok (.istore 10, 2) := by decide +kernel
theorem dL_isSo_93 : decode cL_isSo 93 = .ok (.aload_n 0, 1) := by decide +kernel
theorem dL_isSo_94 : decode cL_isSo 94 = .ok (.iload 7, 2) := by decide +kernel
theorem dL_isSo_96 : decode cL_isSo 96 = .ok (.invokevirtual 64, 3) := by decide +kernel
theorem dL_isSo_99 : decode cL_isSo 99 = .ok (.iload 7, 2) := by decide +kernel
theorem dL_isSo_101 : decode cL_isSo 101 = .ok (.aload_n 1, 1) := by decide +kernel
theorem dL_isSo_102 : decode cL_isSo 102 = .ok (.aload 5, 2) := by decide +kernel
theorem dL_isSo_104 : decode cL_isSo 104 = .ok (.invokestatic 32, 3) := by decide +kernel
theorem dL_isSo_107 : decode cL_isSo 107 = .ok (.if_icmp .ne 61, 3) := by decide +kernel
theorem dL_isSo_110 : decode cL_isSo 110 = .ok (.aload_n 0, 1) := by decide +kernel
theorem dL_isSo_111 : decode cL_isSo 111 = .ok (.iload 7, 2) := by decide +kernel
theorem dL_isSo_113 : decode cL_isSo 113 = .ok (.iconst 0, 1) := by decide +kernel
theorem dL_isSo_114 : decode cL_isSo 114 = .ok (.invokevirtual 66, 3) := by decide +kernel
theorem dL_isSo_117 : decode cL_isSo 117 = .ok (.iload 8, 2) := by decide +kernel
theorem dL_isSo_119 : decode cL_isSo 119 = .ok (.if_icmp .ne 49, 3) := by decide +kernel
theorem dL_isSo_122 : decode cL_isSo 122 = .ok (.aload_n 0, 1) := by decide +kernel
theorem dL_isSo_123 : decode cL_isSo 123 = .ok (.iload 7, 2) := by decide +kernel
theorem dL_isSo_125 : decode cL_isSo 125 = .ok (.iconst 1, 1) := by decide +kernel
theorem dL_isSo_126 : decode cL_isSo 126 = .ok (.invokevirtual 66, 3) := by decide +kernel
theorem dL_isSo_129 : decode cL_isSo 129 = .ok (.iload 9, 2) := by decide +kernel
theorem dL_isSo_131 : decode cL_isSo 131 = .ok (.if_icmp .ne 37, 3) := by decide +kernel
theorem dL_isSo_134 : decode cL_isSo 134 = .ok (.aload_n 0, 1) := by decide +kernel
theorem dL_isSo_135 : decode cL_isSo 135 = .ok (.iload 7, 2) := by decide +kernel
theorem dL_isSo_137 : decode cL_isSo 137 = .ok (.iconst 2, 1) := by decide +kernel
theorem dL_isSo_138 : decode cL_isSo 138 = .ok (.invokevirtual 66, 3) := by decide +kernel
theorem dL_isSo_141 : decode cL_isSo 141 = .ok (.iload 10, 2) := by decide +kernel
theorem dL_isSo_143 : decode cL_isSo 143 = .ok (.if_icmp .ne 25, 3) := by decide +kernel
theorem dL_isSo_146 : decode cL_isSo 146 = .ok (.aload_n 0, 1) := by decide +kernel
theorem dL_isSo_147 : decode cL_isSo 147 = .ok (.iload 7, 2) := by decide +kernel
theorem dL_isSo_149 : decode cL_isSo 149 = .ok (.iconst 3, 1) := by decide +kernel
theorem dL_isSo_150 : decode cL_isSo 150 = .ok (.invokevirtual 66, 3) := by decide +kernel
theorem dL_isSo_153 : decode cL_isSo 153 = .ok (.iload 8, 2) := by decide +kernel
theorem dL_isSo_155 : decode cL_isSo 155 = .ok (.iload 9, 2) := by decide +kernel
theorem dL_isSo_157 : decode cL_isSo 157 = .ok (.isub, 1) := by decide +kernel
theorem dL_isSo_158 : decode cL_isSo 158 = .ok (.iload 10, 2) := by decide +kernel
theorem dL_isSo_160 : decode cL_isSo 160 = .ok (.isub, 1) := by decide +kernel
theorem dL_isSo_161 : decode cL_isSo 161 = .ok (.if_icmp .ne 7, 3) := by decide +kernel
theorem dL_isSo_164 : decode cL_isSo 164 = .ok (.iconst 1, 1) := by decide +kernel
theorem dL_isSo_165 : decode cL_isSo 165 = .ok (.goto 4, 3) := by decide +kernel
theorem dL_isSo_168 : decode cL_isSo 168 = .ok (.iconst 0, 1) := by decide +kernel
theorem dL_isSo_169 : decode cL_isSo 169 = .ok (.istore 6, 2) := by decide +kernel
theorem dL_isSo_171 : decode cL_isSo 171 = .ok (.iinc 7 1, 3) := by decide +kernel
theorem dL_isSo_174 : decode cL_isSo 174 = .ok (.goto (-131), 3) := by decide +kernel
theorem dL_isSo_177 : decode cL_isSo 177 = .ok (.iconst 0, 1) := by decide +kernel
theorem dL_isSo_178 : decode cL_isSo 178 = .ok (.istore 7, 2) := by decide +kernel
theorem dL_isSo_180 : decode cL_isSo 180 = .ok (.iload 7, 2) := by decide +kernel
theorem dL_isSo_182 : decode cL_isSo 182 = .ok (.bipush 6, 2) := by decide +kernel
theorem dL_isSo_184 : decode cL_isSo 184 = .ok (.if_icmp .ge 108, 3) := by decide +kernel
theorem dL_isSo_187 : decode cL_isSo 187 = .ok (.iload 6, 2) := by decide +kernel
theorem dL_isSo_189 : decode cL_isSo 189 = .ok (.ifCond .eq 103, 3) := by decide +kernel
theorem dL_isSo_192 : decode cL_isSo 192 = .ok (.iconst 0, 1) := by decide +kernel
theorem dL_isSo_193 : decode cL_isSo 193 = .ok (.istore 8, 2) := by decide +kernel
theorem dL_isSo_195 : decode cL_isSo 195 = .ok (.iconst 0, 1) := by decide +kernel
theorem dL_isSo_196 : decode cL_isSo 196 = .ok (.istore 9, 2) := by decide +kernel
theorem dL_isSo_198 : decode cL_isSo 198 = .ok (.iload 9, 2) := by decide +kernel
theorem dL_isSo_200 : decode cL_isSo 200 = .ok (.aload 5, 2) := by decide +kernel
theorem dL_isSo_202 : decode cL_isSo 202 = .ok (.iconst 1, 1) := by decide +kernel
theorem dL_isSo_203 : decode cL_isSo 203 = .ok (.iaload, 1) := by decide +kernel
theorem dL_isSo_204 : decode cL_isSo 204 = .ok (.if_icmp .ge 29, 3) := by decide +kernel
theorem dL_isSo_207 : decode cL_isSo 207 = .ok (.iload 8, 2) := by decide +kernel
theorem dL_isSo_209 : decode cL_isSo 209 = .ok (.iload 9, 2) := by decide +kernel
theorem dL_isSo_211 : decode cL_isSo 211 = .ok (.aload 5, 2) := by decide +kernel
theorem dL_isSo_213 : decode cL_isSo 213 = .ok (.iconst 0, 1) := by decide +kernel
theorem dL_isSo_214 : decode cL_isSo 214 = .ok (.iaload, 1) := by decide +kernel
theorem dL_isSo_215 : decode cL_isSo 215 = .ok (.iload 7, 2) := by decide +kernel
theorem dL_isSo_217 : decode cL_isSo 217 = .ok (.iadd, 1) := by decide +kernel
theorem dL_isSo_218 : decode cL_isSo 218 = .ok (.aload_n 1, 1) := by decide +kernel
theorem dL_isSo_219 : decode cL_isSo 219 = .ok (.aload 5, 2) := by decide +kernel
theorem dL_isSo_221 : decode cL_isSo 221 = .ok (.invokestatic 26, 3) := by decide +kernel
theorem dL_isSo_224 : decode cL_isSo 224 = .ok (.iadd, 1) := by decide +kernel
theorem dL_isSo_225 : decode cL_isSo 225 = .ok (.istore 8, 2) := by decide +kernel
theorem dL_isSo_227 : decode cL_isSo 227 = .ok (.iinc 9 1, 3) := by decide +kernel
theorem dL_isSo_230 : decode cL_isSo 230 = .ok (.goto (-32), 3) := by decide +kernel
theorem dL_isSo_233 : decode cL_isSo 233 = .ok (.aload_n 0, 1) := by decide +kernel
theorem dL_isSo_234 : decode cL_isSo 234 = .ok (.iload 7, 2) := by decide +kernel
theorem dL_isSo_236 : decode cL_isSo 236 = .ok (.invokevirtual 68, 3) := by decide +kernel
theorem dL_isSo_239 : decode cL_isSo 239 = .ok (.iload 8, 2) := by decide +kernel
theorem dL_isSo_241 : decode cL_isSo 241 = .ok (.if_icmp .ne 42, 3) := by decide +kernel
theorem dL_isSo_244 : decode cL_isSo 244 = .ok (.aload_n 0, 1) := by decide +kernel
theorem dL_isSo_245 : decode cL_isSo 245 = .ok (.iload 7, 2) := by decide +kernel
theorem dL_isSo_247 : decode cL_isSo 247 = .ok (.invokevirtual 71, 3) := by decide +kernel
theorem dL_isSo_250 : decode cL_isSo 250 = .ok (.aload_n 3, 1) := by decide +kernel
theorem dL_isSo_251 : decode cL_isSo 251 = .ok (.iload 7, 2) := by decide +kernel
theorem dL_isSo_253 : decode cL_isSo 253 = .ok (.iaload, 1) := by decide +kernel
theorem dL_isSo_254 : decode cL_isSo 254 = .ok (.if_icmp .ne 29, 3) := by decide +kernel
theorem dL_isSo_257 : decode cL_isSo 257 = .ok (.iload 7, 2) := by decide +kernel
theorem dL_isSo_259 : decode cL_isSo 259 = .ok (.iconst 2, 1) := by decide +kernel
theorem dL_isSo_260 : decode cL_isSo 260 = .ok (.if_icmp .gt 19, 3) := by decide +kernel
theorem dL_isSo_263 : decode cL_isSo 263 = .ok (.aload_n 0, 1) := by decide +kernel
theorem dL_isSo_264 : decode cL_isSo 264 = .ok (.iload 7, 2) := by decide +kernel
theorem dL_isSo_266 : decode cL_isSo 266 = .ok (.invokevirtual 74, 3) := by decide +kernel
theorem dL_isSo_269 : decode cL_isSo 269 = .ok (.aload 5, 2) := by decide +kernel
theorem dL_isSo_271 : decode cL_isSo 271 = .ok (.iconst 5, 1) := by decide +kernel
theorem dL_isSo_272 : decode cL_isSo 272 = .ok (.iload 7, 2) := by decide +kernel
theorem dL_isSo_274 : decode cL_isSo 274 = .ok (.iadd, 1) := by decide +kernel
theorem dL_isSo_275 : decode cL_isSo 275 = .ok (.iaload, 1) := by decide +kernel
theorem dL_isSo_276 : decode cL_isSo 276 = .ok (.if_icmp .ne 7, 3) := by decide +kernel
theorem dL_isSo_279 : decode cL_isSo 279 = .ok (.iconst 1, 1) := by decide +kernel
theorem dL_isSo_280 : decode cL_isSo 280 = .ok (.goto 4, 3) := by decide +kernel
theorem dL_isSo_283 : decode cL_isSo 283 = .ok (.iconst 0, 1) := by decide +kernel
theorem dL_isSo_284 : decode cL_isSo 284 = .ok (.istore 6, 2) := by decide +kernel
theorem dL_isSo_286 : decode cL_isSo 286 = .ok (.iinc 7 1, 3) := by decide +kernel
theorem dL_isSo_289 : decode cL_isSo 289 = .ok (.goto (-109), 3) := by decide +kernel
theorem dL_isSo_292 : decode cL_isSo 292 = .ok (.aload 5, 2) := by decide +kernel
theorem dL_isSo_294 : decode cL_isSo 294 = .ok (.iconst 0, 1) := by decide +kernel
theorem dL_isSo_295 : decode cL_isSo 295 = .ok (.iaload, 1) := by decide +kernel
theorem dL_isSo_296 : decode cL_isSo 296 = .ok (.bipush 8, 2) := by decide +kernel
theorem dL_isSo_298 : decode cL_isSo 298 = .ok (.if_icmp .ge 7, 3) := by decide +kernel
theorem dL_isSo_301 : decode cL_isSo 301 = .ok (.iconst 0, 1) := by decide +kernel
theorem dL_isSo_302 : decode cL_isSo 302 = .ok (.goto 10, 3) := by decide +kernel
theorem dL_isSo_305 : decode cL_isSo 305 = .ok (.aload 5, 2) := by decide +kernel
theorem dL_isSo_307 : decode cL_isSo 307 = .ok (.iconst 0, 1) := by decide +kernel
theorem dL_isSo_308 : decode cL_isSo 308 = .ok (.iaload, 1) := by decide +kernel
theorem dL_isSo_309 : decode cL_isSo 309 = .ok (.bipush 8, 2) := by decide +kernel
theorem dL_isSo_311 : decode cL_isSo 311 = .ok (.isub, 1) := by decide +kernel
theorem dL_isSo_312 : decode cL_isSo 312 = .ok (.istore 7, 2) := by decide +kernel
theorem dL_isSo_314 : decode cL_isSo 314 = .ok (.iload 7, 2) := by decide +kernel
theorem dL_isSo_316 : decode cL_isSo 316 = .ok (.aload 5, 2) := by decide +kernel
theorem dL_isSo_318 : decode cL_isSo 318 = .ok (.iconst 0, 1) := by decide +kernel
theorem dL_isSo_319 : decode cL_isSo 319 = .ok (.iaload, 1) := by decide +kernel
theorem dL_isSo_320 : decode cL_isSo 320 = .ok (.if_icmp .ge 137, 3) := by decide +kernel
theorem dL_isSo_323 : decode cL_isSo 323 = .ok (.iload 6, 2) := by decide +kernel
theorem dL_isSo_325 : decode cL_isSo 325 = .ok (.ifCond .eq 132, 3) := by decide +kernel
theorem dL_isSo_328 : decode cL_isSo 328 = .ok (.bipush 8, 2) := by decide +kernel
theorem dL_isSo_330 : decode cL_isSo 330 = .ok (.iload 7, 2) := by decide +kernel
theorem dL_isSo_332 : decode cL_isSo 332 = .ok (.bipush 8, 2) := by decide +kernel
theorem dL_isSo_334 : decode cL_isSo 334 = .ok (.irem, 1) := by decide +kernel
theorem dL_isSo_335 : decode cL_isSo 335 = .ok (.imul, 1) := by decide +kernel
theorem dL_isSo_336 : decode cL_isSo 336 = .ok (.istore 8, 2) := by decide +kernel
theorem dL_isSo_338 : decode cL_isSo 338 = .ok (.iconst 0, 1) := by decide +kernel
theorem dL_isSo_339 : decode cL_isSo 339 = .ok (.istore 9, 2) := by decide +kernel
theorem dL_isSo_341 : decode cL_isSo 341 = .ok (.iload 9, 2) := by decide +kernel
theorem dL_isSo_343 : decode cL_isSo 343 = .ok (.iconst 3, 1) := by decide +kernel
theorem dL_isSo_344 : decode cL_isSo 344 = .ok (.if_icmp .ge 61, 3) := by decide +kernel
theorem dL_isSo_347 : decode cL_isSo 347 = .ok (.iload 6, 2) := by decide +kernel
theorem dL_isSo_349 : decode cL_isSo 349 = .ok (.ifCond .eq 56, 3) := by decide +kernel
theorem dL_isSo_352 : decode cL_isSo 352 = .ok (.aload_n 0, 1) := by decide +kernel
theorem dL_isSo_353 : decode cL_isSo 353 = .ok (.iload 9, 2) := by decide +kernel
theorem dL_isSo_355 : decode cL_isSo 355 = .ok (.iload 7, 2) := by decide +kernel
theorem dL_isSo_357 : decode cL_isSo 357 = .ok (.invokevirtual 77, 3) := by decide +kernel
theorem dL_isSo_360 : decode cL_isSo 360 = .ok (.aload 4, 2) := by decide +kernel
theorem dL_isSo_362 : decode cL_isSo 362 = .ok (.iload 8, 2) := by decide +kernel
theorem dL_isSo_364 : decode cL_isSo 364 = .ok (.iload 9, 2) := by decide +kernel
theorem dL_isSo_366 : decode cL_isSo 366 = .ok (.iadd, 1) := by decide +kernel
theorem dL_isSo_367 : decode cL_isSo 367 = .ok (.iaload, 1) := by decide +kernel
theorem dL_isSo_368 : decode cL_isSo 368 = .ok (.if_icmp .ne 28, 3) := by decide +kernel
theorem dL_isSo_371 : decode cL_isSo 371 = .ok (.aload_n 0, 1) := by decide +kernel
theorem dL_isSo_372 : decode cL_isSo 372 = .ok (.iload 9, 2) := by decide +kernel
theorem dL_isSo_374 : decode cL_isSo 374 = .ok (.iload 7, 2) := by decide +kernel
theorem dL_isSo_376 : decode cL_isSo 376 = .ok (.invokevirtual 80, 3) := by decide +kernel
theorem dL_isSo_379 : decode cL_isSo 379 = .ok (.aload 4, 2) := by decide +kernel
theorem dL_isSo_381 : decode cL_isSo 381 = .ok (.iload 8, 2) := by decide +kernel
theorem dL_isSo_383 : decode cL_isSo 383 = .ok (.iconst 3, 1) := by decide +kernel
theorem dL_isSo_384 : decode cL_isSo 384 = .ok (.iadd, 1) := by decide +kernel
theorem dL_isSo_385 : decode cL_isSo 385 = .ok (.iload 9, 2) := by decide +kernel
theorem dL_isSo_387 : decode cL_isSo 387 = .ok (.iadd, 1) := by decide +kernel
theorem dL_isSo_388 : decode cL_isSo 388 = .ok (.iaload, 1) := by decide +kernel
theorem dL_isSo_389 : decode cL_isSo 389 = .ok (.if_icmp .ne 7, 3) := by decide +kernel
theorem dL_isSo_392 : decode cL_isSo 392 = .ok (.iconst 1, 1) := by decide +kernel
theorem dL_isSo_393 : decode cL_isSo 393 = .ok (.goto 4, 3) := by decide +kernel
theorem dL_isSo_396 : decode cL_isSo 396 = .ok (.iconst 0, 1) := by decide +kernel
theorem dL_isSo_397 : decode cL_isSo 397 = .ok (.istore 6, 2) := by decide +kernel
theorem dL_isSo_399 : decode cL_isSo 399 = .ok (.iinc 9 1, 3) := by decide +kernel
theorem dL_isSo_402 : decode cL_isSo 402 = .ok (.goto (-61), 3) := by decide +kernel
theorem dL_isSo_405 : decode cL_isSo 405 = .ok (.iload 6, 2) := by decide +kernel
theorem dL_isSo_407 : decode cL_isSo 407 = .ok (.ifCond .eq 41, 3) := by decide +kernel
theorem dL_isSo_410 : decode cL_isSo 410 = .ok (.aload_n 0, 1) := by decide +kernel
theorem dL_isSo_411 : decode cL_isSo 411 = .ok (.iload 7, 2) := by decide +kernel
theorem dL_isSo_413 : decode cL_isSo 413 = .ok (.invokevirtual 83, 3) := by decide +kernel
theorem dL_isSo_416 : decode cL_isSo 416 = .ok (.aload 4, 2) := by decide +kernel
theorem dL_isSo_418 : decode cL_isSo 418 = .ok (.iload 8, 2) := by decide +kernel
theorem dL_isSo_420 : decode cL_isSo 420 = .ok (.bipush 6, 2) := by decide +kernel
theorem dL_isSo_422 : decode cL_isSo 422 = .ok (.iadd, 1) := by decide +kernel
theorem dL_isSo_423 : decode cL_isSo 423 = .ok (.iaload, 1) := by decide +kernel
theorem dL_isSo_424 : decode cL_isSo 424 = .ok (.if_icmp .ne 24, 3) := by decide +kernel
theorem dL_isSo_427 : decode cL_isSo 427 = .ok (.aload_n 0, 1) := by decide +kernel
theorem dL_isSo_428 : decode cL_isSo 428 = .ok (.iload 7, 2) := by decide +kernel
theorem dL_isSo_430 : decode cL_isSo 430 = .ok (.invokevirtual 86, 3) := by decide +kernel
theorem dL_isSo_433 : decode cL_isSo 433 = .ok (.aload 4, 2) := by decide +kernel
theorem dL_isSo_435 : decode cL_isSo 435 = .ok (.iload 8, 2) := by decide +kernel
theorem dL_isSo_437 : decode cL_isSo 437 = .ok (.bipush 7, 2) := by decide +kernel
theorem dL_isSo_439 : decode cL_isSo 439 = .ok (.iadd, 1) := by decide +kernel
theorem dL_isSo_440 : decode cL_isSo 440 = .ok (.iaload, 1) := by decide +kernel
theorem dL_isSo_441 : decode cL_isSo 441 = .ok (.if_icmp .ne 7, 3) := by decide +kernel
theorem dL_isSo_444 : decode cL_isSo 444 = .ok (.iconst 1, 1) := by decide +kernel
theorem dL_isSo_445 : decode cL_isSo 445 = .ok (.goto 4, 3) := by decide +kernel
theorem dL_isSo_448 : decode cL_isSo 448 = .ok (.iconst 0, 1) := by decide +kernel
theorem dL_isSo_449 : decode cL_isSo 449 = .ok (.istore 6, 2) := by decide +kernel
theorem dL_isSo_451 : decode cL_isSo 451 = .ok (.iinc 7 1, 3) := by decide +kernel
theorem dL_isSo_454 : decode cL_isSo 454 = .ok (.goto (-140), 3) := by decide +kernel
theorem dL_isSo_457 : decode cL_isSo 457 = .ok (.iload 6, 2) := by decide +kernel
theorem dL_isSo_459 : decode cL_isSo 459 = .ok (.ireturn, 1) := by decide +kernel
end
section
set_option maxRecDepth 20000 in
theorem ggL_lends_L_low : GoodIn wsL_lends wsL_low := goodIn_r _ [6, 7] (by decide +kernel) (by decide +kernel)
set_option maxRecDepth 20000 in
theorem gL_lends_L_low : GoodIn wsL_lends (va_wsS RL 89 yL_low wsL_low) := goodIn_app (goodIn_of _ (by decide +kernel)) ggL_lends_L_low
set_option maxRecDepth 20000 in
theorem ggL_lends_X2_lend : GoodIn wsL_lends wsX2_lend := goodIn_ca (goodIn_ca (goodIn_ca (goodIn_r _ [12, 13, 14, 15, 16, 17, 18, 19, 20, 21, 22, 23, 24, 25, 26, 27, 28, 29, 30, 31, 32, 33, 34, 11, 35, 36, 37, 38, 39, 40, 41, 42, 43, 44, 45, 46, 47, 48, 49, 50, 51, 52, 53, 54, 55, 56, 57, 58, 59, 60, 61, 62, 63, 64, 65, 66, 67, 68, 69, 70] (by decide +kernel) (by decide +kernel)) (goodIn_sub (fun _ h => List.mem_cons_of_mem _ (List.mem_append_left _ (List.mem_append_left _ (List.mem_append_right _ h)))) (by decide +kernel))) (goodIn_sub (fun _ h => List.mem_cons_of_mem _ (List.mem_append_left _ (List.mem_append_right _ h))) (by decide +kernel))) (goodIn_sub (fun _ h => List.mem_cons_of_mem _ (List.mem_append_right _ h)) (by decide +kernel))
set_option maxRecDepth 20000 in
theorem gL_lends_X2_lend : GoodIn wsL_lends (wsV RL 94 RX2 yX2_lend wsX2_lend) := goodIn_app (goodIn_of _ (by decide +kernel)) ggL_lends_X2_lend
theorem dL_lends_0 : decode cL_lends 0 = .ok (.iconst 0, 1) := by decide +kernel
theorem dL_lends_1 : decode cL_lends 1 = .ok (.istore 5, 2) := by decide +kernel
theorem dL_lends_3 : decode cL_lends 3 = .ok (.aload 4, 2) := by decide +kernel
theorem dL_lends_5 : decode cL_lends 5 = .ok (.iconst 1, 1) := by decide +kernel
theorem dL_lends_6 : decode cL_lends 6 = .ok (.iaload, 1) := by decide +kernel
theorem dL_lends_7 : decode cL_lends 7 = .ok (.bipush 8, 2) := by decide +kernel
theorem dL_lends_9 : decode cL_lends 9 = .ok (.if_icmp .ge 7, 3) := by decide +kernel
theorem dL_lends_12 : decode cL_lends 12 = .ok (.iconst 1, 1) := by decide +kernel
theorem dL_lends_13 : decode cL_lends 13 = .ok (.goto 4, 3) := by decide +kernel
theorem dL_lends_16 : decode cL_lends 16 = .ok (.iconst 0, 1) := by decide +kernel
theorem dL_lends_17 : decode cL_lends 17 = .ok (.istore 6, 2) := by decide +kernel
theorem dL_lends_19 : decode cL_lends 19 = .ok (.iload 6, 2) := by decide +kernel
theorem dL_lends_21 : decode cL_lends 21 = .ok (.ifCond .ne 5, 3) := by decide +kernel
theorem dL_lends_24 : decode cL_lends 24 = .ok (.iconst 1, 1) := by decide +kernel
theorem dL_lends_25 : decode cL_lends 25 = .ok (.ireturn, 1) := by decide +kernel
theorem dL_lends_26 : decode cL_lends 26 = .ok (.aload 4, 2) := by decide +kernel
theorem dL_lends_28 : decode cL_lends 28 = .ok (.iconst 1, 1) := by decide +kernel
theorem dL_lends_29 : decode cL_lends 29 = .ok (.iaload, 1) := by decide +kernel
theorem dL_lends_30 : decode cL_lends 30 = .ok (.istore 5, 2) := by decide +kernel
theorem dL_lends_32 : decode cL_lends 32 = .ok (.bipush 8, 2) := by decide +kernel
theorem dL_lends_34 : decode cL_lends 34 = .ok (.iload 5, 2) := by decide +kernel
theorem dL_lends_36 : decode cL_lends 36 = .ok (.imul, 1) := by decide +kernel
theorem dL_lends_37 : decode cL_lends 37 = .ok (.istore 7, 2) := by decide +kernel
theorem dL_lends_39 : decode cL_lends 39 = .ok (.aload_n 2, 1) := by decide +kernel
theorem dL_lends_40 : decode cL_lends 40 = .ok (.iload 7, 2) := by decide +kernel
theorem dL_lends_42 : decode cL_lends 42 = .ok (.iload_n 1, 1) := by decide +kernel
theorem dL_lends_43 : decode cL_lends 43 = .ok (.iconst 3, 1) := by decide +kernel
theorem dL_lends_44 : decode cL_lends 44 = .ok (.invokestatic 89, 3) := by decide +kernel
theorem dL_lends_47 : decode cL_lends 47 = .ok (.iastore, 1) := by decide +kernel
theorem dL_lends_48 : decode cL_lends 48 = .ok (.aload_n 2, 1) := by decide +kernel
theorem dL_lends_49 : decode cL_lends 49 = .ok (.iload 7, 2) := by decide +kernel
theorem dL_lends_51 : decode cL_lends 51 = .ok (.iconst 1, 1) := by decide +kernel
theorem dL_lends_52 : decode cL_lends 52 = .ok (.iadd, 1) := by decide +kernel
theorem dL_lends_53 : decode cL_lends 53 = .ok (.iload_n 1, 1) := by decide +kernel
theorem dL_lends_54 : decode cL_lends 54 = .ok (.iconst 2, 1) := by decide +kernel
theorem dL_lends_55 : decode cL_lends 55 = .ok (.ishr, 1) := by decide +kernel
theorem dL_lends_56 : decode cL_lends 56 = .ok (.iconst 3, 1) := by decide +kernel
theorem dL_lends_57 : decode cL_lends 57 = .ok (.invokestatic 89, 3) := by decide +kernel
theorem dL_lends_60 : decode cL_lends 60 = .ok (.iastore, 1) := by decide +kernel
theorem dL_lends_61 : decode cL_lends 61 = .ok (.aload_n 2, 1) := by decide +kernel
theorem dL_lends_62 : decode cL_lends 62 = .ok (.iload 7, 2) := by decide +kernel
theorem dL_lends_64 : decode cL_lends 64 = .ok (.iconst 2, 1) := by decide +kernel
theorem dL_lends_65 : decode cL_lends 65 = .ok (.iadd, 1) := by decide +kernel
theorem dL_lends_66 : decode cL_lends 66 = .ok (.iconst 1, 1) := by decide +kernel
theorem dL_lends_67 : decode cL_lends 67 = .ok (.iload_n 1, 1) := by decide +kernel
theorem dL_lends_68 : decode cL_lends 68 = .ok (.iconst 4, 1) := by decide +kernel
theorem dL_lends_69 : decode cL_lends 69 = .ok (.ishr, 1) := by decide +kernel
theorem dL_lends_70 : decode cL_lends 70 = .ok (.iload_n 1, 1) := by decide +kernel
theorem dL_lends_71 : decode cL_lends 71 = .ok (.bipush 14, 2) := by decide +kernel
theorem dL_lends_73 : decode cL_lends 73 = .ok (.ishr, 1) := by decide +kernel
theorem dL_lends_74 : decode cL_lends 74 = .ok (.iconst 3, 1) := by decide +kernel
theorem dL_lends_75 : decode cL_lends 75 = .ok (.invokestatic 89, 3) := by decide +kernel
theorem dL_lends_78 : decode cL_lends 78 = .ok (.ifCond .ne 8, 3) := by decide +kernel
theorem dL_lends_81 : decode cL_lends 81 = .ok (.ldc 92, 2) := by decide +kernel
theorem dL_lends_83 : decode cL_lends 83 = .ok (.goto 5, 3) := by decide +kernel
theorem dL_lends_86 : decode cL_lends 86 = .ok (.ldc 93, 2) := by decide +kernel
theorem dL_lends_88 : decode cL_lends 88 = .ok (.invokestatic 89, 3) := by decide +kernel
theorem dL_lends_91 : decode cL_lends 91 = .ok (.iadd, 1) := by decide +kernel
theorem dL_lends_92 : decode cL_lends 92 = .ok (.iastore, 1) := by decide +kernel
theorem dL_lends_93 : decode cL_lends 93 = .ok (.aload_n 2, 1) := by decide +kernel
theorem dL_lends_94 : decode cL_lends 94 = .ok (.iload 7, 2) := by decide +kernel
theorem dL_lends_96 : decode cL_lends 96 = .ok (.iconst 3, 1) := by decide +kernel
theorem dL_lends_97 : decode cL_lends 97 = .ok (.iadd, 1) := by decide +kernel
theorem dL_lends_98 : decode cL_lends 98 = .ok (.iload_n 1, 1) := by decide +kernel
theorem dL_lends_99 : decode cL_lends 99 = .ok (.iconst 5, 1) := by decide +kernel
theorem dL_lends_100 : decode cL_lends 100 = .ok (.ishr, 1) := by decide +kernel
theorem dL_lends_101 : decode cL_lends 101 = .ok (.sipush 5001, 3) := by decide +kernel
theorem dL_lends_104 : decode cL_lends 104 = .ok (.invokestatic 89, 3) := by decide +kernel
theorem dL_lends_107 : decode cL_lends 107 = .ok (.iastore, 1) := by decide +kernel
theorem dL_lends_108 : decode cL_lends 108 = .ok (.aload_n 2, 1) := by decide +kernel
theorem dL_lends_109 : decode cL_lends 109 = .ok (.iload 7, 2) := by decide +kernel
theorem dL_lends_111 : decode cL_lends 111 = .ok (.iconst 4, 1) := by decide +kernel
theorem dL_lends_112 : decode cL_lends 112 = .ok (.iadd, 1) := by decide +kernel
theorem dL_lends_113 : decode cL_lends 113 = .ok (.iconst 1, 1) := by decide +kernel
theorem dL_lends_114 : decode cL_lends 114 = .ok (.iload_n 1, 1) := by decide +kernel
theorem dL_lends_115 : decode cL_lends 115 = .ok (.bipush 7, 2) := by decide +kernel
theorem dL_lends_117 : decode cL_lends 117 = .ok (.ishr, 1) := by decide +kernel
theorem dL_lends_118 : decode cL_lends 118 = .ok (.bipush 6, 2) := by decide +kernel
theorem dL_lends_120 : decode cL_lends 120 = .ok (.invokestatic 89, 3) := by decide +kernel
theorem dL_lends_123 : decode cL_lends 123 = .ok (.iadd, 1) := by decide +kernel
theorem dL_lends_124 : decode cL_lends 124 = .ok (.iastore, 1) := by decide +kernel
theorem dL_lends_125 : decode cL_lends 125 = .ok (.aload_n 2, 1) := by decide +kernel
theorem dL_lends_126 : decode cL_lends 126 = .ok (.iload 7, 2) := by decide +kernel
theorem dL_lends_128 : decode cL_lends 128 = .ok (.iconst 5, 1) := by decide +kernel
theorem dL_lends_129 : decode cL_lends 129 = .ok (.iadd, 1) := by decide +kernel
theorem dL_lends_130 : decode cL_lends 130 = .ok (.aload 4, 2) := by decide +kernel
theorem dL_lends_132 : decode cL_lends 132 = .ok (.iconst 0, 1) := by decide +kernel
theorem dL_lends_133 : decode cL_lends 133 = .ok (.iaload, 1) := by decide +kernel
theorem dL_lends_134 : decode cL_lends 134 = .ok (.iastore, 1) := by decide +kernel
theorem dL_lends_135 : decode cL_lends 135 = .ok (.aload_n 2, 1) := by decide +kernel
theorem dL_lends_136 : decode cL_lends 136 = .ok (.iload 7, 2) := by decide +kernel
theorem dL_lends_138 : decode cL_lends 138 = .ok (.bipush 6, 2) := by decide +kernel
theorem dL_lends_140 : decode cL_lends 140 = .ok (.iadd, 1) := by decide +kernel
theorem dL_lends_141 : decode cL_lends 141 = .ok (.iload_n 1, 1) := by decide +kernel
theorem dL_lends_142 : decode cL_lends 142 = .ok (.bipush 9, 2) := by decide +kernel
theorem dL_lends_144 : decode cL_lends 144 = .ok (.ishr, 1) := by decide +kernel
theorem dL_lends_145 : decode cL_lends 145 = .ok (.iconst 2, 1) := by decide +kernel
theorem dL_lends_146 : decode cL_lends 146 = .ok (.invokestatic 89, 3) := by decide +kernel
theorem dL_lends_149 : decode cL_lends 149 = .ok (.ifCond .ne 7, 3) := by decide +kernel
theorem dL_lends_152 : decode cL_lends 152 = .ok (.iconst (-1), 1) := by decide +kernel
theorem dL_lends_153 : decode cL_lends 153 = .ok (.goto 7, 3) := by decide +kernel
theorem dL_lends_156 : decode cL_lends 156 = .ok (.aload 4, 2) := by decide +kernel
theorem dL_lends_158 : decode cL_lends 158 = .ok (.iconst 3, 1) := by decide +kernel
theorem dL_lends_159 : decode cL_lends 159 = .ok (.iaload, 1) := by decide +kernel
theorem dL_lends_160 : decode cL_lends 160 = .ok (.iastore, 1) := by decide +kernel
theorem dL_lends_161 : decode cL_lends 161 = .ok (.aload_n 2, 1) := by decide +kernel
theorem dL_lends_162 : decode cL_lends 162 = .ok (.iload 7, 2) := by decide +kernel
theorem dL_lends_164 : decode cL_lends 164 = .ok (.bipush 7, 2) := by decide +kernel
theorem dL_lends_166 : decode cL_lends 166 = .ok (.iadd, 1) := by decide +kernel
theorem dL_lends_167 : decode cL_lends 167 = .ok (.iconst 0, 1) := by decide +kernel
theorem dL_lends_168 : decode cL_lends 168 = .ok (.iastore, 1) := by decide +kernel
theorem dL_lends_169 : decode cL_lends 169 = .ok (.iconst 0, 1) := by decide +kernel
theorem dL_lends_170 : decode cL_lends 170 = .ok (.istore 8, 2) := by decide +kernel
theorem dL_lends_172 : decode cL_lends 172 = .ok (.iload 8, 2) := by decide +kernel
theorem dL_lends_174 : decode cL_lends 174 = .ok (.bipush 6, 2) := by decide +kernel
theorem dL_lends_176 : decode cL_lends 176 = .ok (.if_icmp .ge 27, 3) := by decide +kernel
theorem dL_lends_179 : decode cL_lends 179 = .ok (.aload_n 3, 1) := by decide +kernel
theorem dL_lends_180 : decode cL_lends 180 = .ok (.bipush 6, 2) := by decide +kernel
theorem dL_lends_182 : decode cL_lends 182 = .ok (.iload 5, 2) := by decide +kernel
theorem dL_lends_184 : decode cL_lends 184 = .ok (.imul, 1) := by decide +kernel
theorem dL_lends_185 : decode cL_lends 185 = .ok (.iload 8, 2) := by decide +kernel
theorem dL_lends_187 : decode cL_lends 187 = .ok (.iadd, 1) := by decide +kernel
theorem dL_lends_188 : decode cL_lends 188 = .ok (.aload 4, 2) := by decide +kernel
theorem dL_lends_190 : decode cL_lends 190 = .ok (.bipush 8, 2) := by decide +kernel
theorem dL_lends_192 : decode cL_lends 192 = .ok (.iload 8, 2) := by decide +kernel
theorem dL_lends_194 : decode cL_lends 194 = .ok (.iadd, 1) := by decide +kernel
theorem dL_lends_195 : decode cL_lends 195 = .ok (.iaload, 1) := by decide +kernel
theorem dL_lends_196 : decode cL_lends 196 = .ok (.iastore, 1) := by decide +kernel
theorem dL_lends_197 : decode cL_lends 197 = .ok (.iinc 8 1, 3) := by decide +kernel
theorem dL_lends_200 : decode cL_lends 200 = .ok (.goto (-28), 3) := by decide +kernel
theorem dL_lends_203 : decode cL_lends 203 = .ok (.aload 4, 2) := by decide +kernel
theorem dL_lends_205 : decode cL_lends 205 = .ok (.iconst 1, 1) := by decide +kernel
theorem dL_lends_206 : decode cL_lends 206 = .ok (.dup2, 1) := by decide +kernel
theorem dL_lends_207 : decode cL_lends 207 = .ok (.iaload, 1) := by decide +kernel
theorem dL_lends_208 : decode cL_lends 208 = .ok (.iconst 1, 1) := by decide +kernel
theorem dL_lends_209 : decode cL_lends 209 = .ok (.iadd, 1) := by decide +kernel
theorem dL_lends_210 : decode cL_lends 210 = .ok (.iastore, 1) := by decide +kernel
theorem dL_lends_211 : decode cL_lends 211 = .ok (.aload_n 0, 1) := by decide +kernel
theorem dL_lends_212 : decode cL_lends 212 = .ok (.aload_n 2, 1) := by decide +kernel
theorem dL_lends_213 : decode cL_lends 213 = .ok (.iload 7, 2) := by decide +kernel
theorem dL_lends_215 : decode cL_lends 215 = .ok (.iaload, 1) := by decide +kernel
theorem dL_lends_216 : decode cL_lends 216 = .ok (.aload_n 2, 1) := by decide +kernel
theorem dL_lends_217 : decode cL_lends 217 = .ok (.iload 7, 2) := by decide +kernel
theorem dL_lends_219 : decode cL_lends 219 = .ok (.iconst 1, 1) := by decide +kernel
theorem dL_lends_220 : decode cL_lends 220 = .ok (.iadd, 1) := by decide +kernel
theorem dL_lends_221 : decode cL_lends 221 = .ok (.iaload, 1) := by decide +kernel
theorem dL_lends_222 : decode cL_lends 222 = .ok (.aload_n 2, 1) := by decide +kernel
theorem dL_lends_223 : decode cL_lends 223 = .ok (.iload 7, 2) := by decide +kernel
theorem dL_lends_225 : decode cL_lends 225 = .ok (.iconst 2, 1) := by decide +kernel
theorem dL_lends_226 : decode cL_lends 226 = .ok (.iadd, 1) := by decide +kernel
theorem dL_lends_227 : decode cL_lends 227 = .ok (.iaload, 1) := by decide +kernel
theorem dL_lends_228 : decode cL_lends 228 = .ok (.aload_n 2, 1) := by decide +kernel
theorem dL_lends_229 : decode cL_lends 229 = .ok (.iload 7, 2) := by decide +kernel
theorem dL_lends_231 : decode cL_lends 231 = .ok (.iconst 3, 1) := by decide +kernel
theorem dL_lends_232 : decode cL_lends 232 = .ok (.iadd, 1) := by decide +kernel
theorem dL_lends_233 : decode cL_lends 233 = .ok (.iaload, 1) := by decide +kernel
theorem dL_lends_234 : decode cL_lends 234 = .ok (.aload_n 2, 1) := by decide +kernel
theorem dL_lends_235 : decode cL_lends 235 = .ok (.iload 7, 2) := by decide +kernel
theorem dL_lends_237 : decode cL_lends 237 = .ok (.iconst 4, 1) := by decide +kernel
theorem dL_lends_238 : decode cL_lends 238 = .ok (.iadd, 1) := by decide +kernel
theorem dL_lends_239 : decode cL_lends 239 = .ok (.iaload, 1) := by decide +kernel
theorem dL_lends_240 : decode cL_lends 240 = .ok (.aload_n 2, 1) := by decide +kernel
theorem dL_lends_241 : decode cL_lends 241 = .ok (.iload 7, 2) := by decide +kernel
theorem dL_lends_243 : decode cL_lends 243 = .ok (.bipush 6, 2) := by decide +kernel
theorem dL_lends_245 : decode cL_lends 245 = .ok (.iadd, 1) := by decide +kernel
theorem dL_lends_246 : decode cL_lends 246 = .ok (.iaload, 1) := by decide +kernel
theorem dL_lends_247 : decode cL_lends 247 = .ok (.ifCond .lt 7, 3) := by decide +kernel
theorem dL_lends_250 : decode cL_lends 250 = .ok (.iconst 1, 1) := by decide +kernel
theorem dL_lends_251 : decode cL_lends 251 = .ok (.goto 4, 3) := by decide +kernel
theorem dL_lends_254 : decode cL_lends 254 = .ok (.iconst 0, 1) := by decide +kernel
theorem dL_lends_255 : decode cL_lends 255 = .ok (.invokevirtual 94, 3) := by decide +kernel
theorem dL_lends_258 : decode cL_lends 258 = .ok (.iload 5, 2) := by decide +kernel
theorem dL_lends_260 : decode cL_lends 260 = .ok (.if_icmp .ne 7, 3) := by decide +kernel
theorem dL_lends_263 : decode cL_lends 263 = .ok (.iconst 1, 1) := by decide +kernel
theorem dL_lends_264 : decode cL_lends 264 = .ok (.goto 4, 3) := by decide +kernel
theorem dL_lends_267 : decode cL_lends 267 = .ok (.iconst 0, 1) := by decide +kernel
theorem dL_lends_268 : decode cL_lends 268 = .ok (.ireturn, 1) := by decide +kernel
set_option maxRecDepth 20000 in
theorem ggL_deposits_L_low : GoodIn wsL_deposits wsL_low := goodIn_r _ [8, 9] (by decide +kernel) (by decide +kernel)
set_option maxRecDepth 20000 in
theorem gL_deposits_L_low : GoodIn wsL_deposits (va_wsS RL 89 yL_low wsL_low) := goodIn_app (goodIn_of _ (by decide +kernel)) ggL_deposits_L_low
set_option maxRecDepth 20000 in
theorem ggL_deposits_L_lay : GoodIn wsL_deposits wsL_lay := goodIn_r _ [12, 13] (by decide +kernel) (by decide +kernel)
set_option maxRecDepth 20000 in
theorem gL_deposits_L_lay : GoodIn wsL_deposits (va_wsS RL 51 yL_lay wsL_lay) := goodIn_app (goodIn_of _ (by decide +kernel)) ggL_deposits_L_lay
set_option maxRecDepth 20000 in
theorem ggL_deposits_L_calls : GoodIn wsL_deposits wsL_calls := goodIn_ca (goodIn_ca (goodIn_ca (goodIn_r _ [16, 17, 18, 19, 20, 21, 22, 23, 24, 25, 26, 27, 28, 29, 30, 31, 32, 33, 34, 35, 36, 37, 38, 39, 40, 41, 42, 43, 44, 45, 46, 47, 48, 49, 50, 51, 52, 53, 54, 55, 56, 57, 58, 59, 60, 61, 62, 63, 64, 65, 66, 67, 68, 69, 70, 71, 72, 73, 74, 75, 76, 77, 78, 79, 80, 81, 82, 83, 84, 85, 86, 87, 88, 89, 90, 91, 92, 93, 94, 95, 96, 97, 98, 99, 100, 101, 102, 103, 104, 105, 106, 107, 108, 109, 110, 111, 112, 113, 114, 115, 116, 117, 118, 119, 120, 121, 122, 123, 124, 125, 126, 127, 128, 129, 130, 131, 132, 133, 134, 135, 136, 137, 138, 139, 140, 141, 142, 143, 144, 145, 146, 147, 148, 149, 150, 151, 152, 153, 154, 155, 156, 157] (by decide +kernel) (by decide +kernel)) (goodIn_sub (fun _ h => List.mem_cons_of_mem _ (List.mem_append_left _ (List.mem_append_left _ (List.mem_append_right _ h)))) (by decide +kernel))) (goodIn_sub (fun _ h => List.mem_cons_of_mem _ (List.mem_append_left _ (List.mem_append_right _ h))) (by decide +kernel))) (goodIn_sub (fun _ h => List.mem_cons_of_mem _ (List.mem_append_right _ h)) (by decide +kernel))
set_option maxRecDepth 20000 in
theorem gL_deposits_L_calls : GoodIn wsL_deposits (va_wsS RL 101 yL_calls wsL_calls) := goodIn_app (goodIn_of _ (by decide +kernel)) ggL_deposits_L_calls
theorem dL_deposits_0 : decode cL_deposits 0 = .ok (.iload_n 1, 1) := by decide +kernel
theorem dL_deposits_1 : decode cL_deposits 1 = .ok (.iconst 3, 1) := by decide +kernel
theorem dL_deposits_2 : decode cL_deposits 2 = .ok (.invokestatic 89, 3) := by decide +kernel
theorem dL_deposits_5 : decode cL_deposits 5 = .ok (.istore 4, 2) := by decide +kernel
theorem dL_deposits_7 : decode cL_deposits 7 = .ok (.iload_n 1, 1) := by decide +kernel
theorem dL_deposits_8 : decode cL_deposits 8 = .ok (.bipush 12, 2) := by decide +kernel
theorem dL_deposits_10 : decode cL_deposits 10 = .ok (.ishr, 1) := by decide +kernel
theorem dL_deposits_11 : decode cL_deposits 11 = .ok (.iconst 4, 1) := by decide +kernel
theorem dL_deposits_12 : decode cL_deposits 12 = .ok (.invokestatic 89, 3) := by decide +kernel
theorem dL_deposits_15 : decode cL_deposits 15 = .ok (.ifCond .ne 17, 3) := by decide +kernel
theorem dL_deposits_18 : decode cL_deposits 18 = .ok (.iload_n 1, 1) := by decide +kernel
theorem dL_deposits_19 : decode cL_deposits 19 = .ok (.iconst 2, 1) := by decide +kernel
theorem dL_deposits_20 : decode cL_deposits 20 = .ok (.ishr, 1) := by decide +kernel
theorem dL_deposits_21 : decode cL_deposits 21 = .ok (.ldc 98, 2) := by decide +kernel
theorem dL_deposits_23 : decode cL_deposits 23 = .ok (.invokestatic 89, 3) := by decide +kernel
theorem dL_deposits_26 : decode cL_deposits 26 = .ok (.ldc 92, 2) := by decide +kernel
theorem dL_deposits_28 : decode cL_deposits 28 = .ok (.isub, 1) := by decide +kernel
theorem dL_deposits_29 : decode cL_deposits 29 = .ok (.goto 22, 3) := by decide +kernel
theorem dL_deposits_32 : decode cL_deposits 32 = .ok (.iload_n 1, 1) := by decide +kernel
theorem dL_deposits_33 : decode cL_deposits 33 = .ok (.iconst 2, 1) := by decide +kernel
theorem dL_deposits_34 : decode cL_deposits 34 = .ok (.ishr, 1) := by decide +kernel
theorem dL_deposits_35 : decode cL_deposits 35 = .ok (.ldc 99, 2) := by decide +kernel
theorem dL_deposits_37 : decode cL_deposits 37 = .ok (.invokestatic 89, 3) := by decide +kernel
theorem dL_deposits_40 : decode cL_deposits 40 = .ok (.iload_n 1, 1) := by decide +kernel
theorem dL_deposits_41 : decode cL_deposits 41 = .ok (.iconst 5, 1) := by decide +kernel
theorem dL_deposits_42 : decode cL_deposits 42 = .ok (.ishr, 1) := by decide +kernel
theorem dL_deposits_43 : decode cL_deposits 43 = .ok (.iconst 3, 1) := by decide +kernel
theorem dL_deposits_44 : decode cL_deposits 44 = .ok (.invokestatic 89, 3) := by decide +kernel
theorem dL_deposits_47 : decode cL_deposits 47 = .ok (.ldc 100, 2) := by decide +kernel
theorem dL_deposits_49 : decode cL_deposits 49 = .ok (.imul, 1) := by decide +kernel
theorem dL_deposits_50 : decode cL_deposits 50 = .ok (.isub, 1) := by decide +kernel
theorem dL_deposits_51 : decode cL_deposits 51 = .ok (.istore 5, 2) := by decide +kernel
theorem dL_deposits_53 : decode cL_deposits 53 = .ok (.aload_n 3, 1) := by decide +kernel
theorem dL_deposits_54 : decode cL_deposits 54 = .ok (.iconst 5, 1) := by decide +kernel
theorem dL_deposits_55 : decode cL_deposits 55 = .ok (.iload 4, 2) := by decide +kernel
theorem dL_deposits_57 : decode cL_deposits 57 = .ok (.iadd, 1) := by decide +kernel
theorem dL_deposits_58 : decode cL_deposits 58 = .ok (.iaload, 1) := by decide +kernel
theorem dL_deposits_59 : decode cL_deposits 59 = .ok (.iload 5, 2) := by decide +kernel
theorem dL_deposits_61 : decode cL_deposits 61 = .ok (.iadd, 1) := by decide +kernel
theorem dL_deposits_62 : decode cL_deposits 62 = .ok (.ifCond .lt 17, 3) := by decide +kernel
theorem dL_deposits_65 : decode cL_deposits 65 = .ok (.aload_n 3, 1) := by decide +kernel
theorem dL_deposits_66 : decode cL_deposits 66 = .ok (.iconst 5, 1) := by decide +kernel
theorem dL_deposits_67 : decode cL_deposits 67 = .ok (.iload 4, 2) := by decide +kernel
theorem dL_deposits_69 : decode cL_deposits 69 = .ok (.iadd, 1) := by decide +kernel
theorem dL_deposits_70 : decode cL_deposits 70 = .ok (.iaload, 1) := by decide +kernel
theorem dL_deposits_71 : decode cL_deposits 71 = .ok (.iload 5, 2) := by decide +kernel
theorem dL_deposits_73 : decode cL_deposits 73 = .ok (.iadd, 1) := by decide +kernel
theorem dL_deposits_74 : decode cL_deposits 74 = .ok (.ldc 92, 2) := by decide +kernel
theorem dL_deposits_76 : decode cL_deposits 76 = .ok (.if_icmp .le 8, 3) := by decide +kernel
theorem dL_deposits_79 : decode cL_deposits 79 = .ok (.bipush (-3), 2) := by decide +kernel
theorem dL_deposits_81 : decode cL_deposits 81 = .ok (.goto 12, 3) := by decide +kernel
theorem dL_deposits_84 : decode cL_deposits 84 = .ok (.aload_n 3, 1) := by decide +kernel
theorem dL_deposits_85 : decode cL_deposits 85 = .ok (.iconst 5, 1) := by decide +kernel
theorem dL_deposits_86 : decode cL_deposits 86 = .ok (.iload 4, 2) := by decide +kernel
theorem dL_deposits_88 : decode cL_deposits 88 = .ok (.iadd, 1) := by decide +kernel
theorem dL_deposits_89 : decode cL_deposits 89 = .ok (.iaload, 1) := by decide +kernel
theorem dL_deposits_90 : decode cL_deposits 90 = .ok (.iload 5, 2) := by decide +kernel
theorem dL_deposits_92 : decode cL_deposits 92 = .ok (.iadd, 1) := by decide +kernel
theorem dL_deposits_93 : decode cL_deposits 93 = .ok (.istore 6, 2) := by decide +kernel
theorem dL_deposits_95 : decode cL_deposits 95 = .ok (.iload 6, 2) := by decide +kernel
theorem dL_deposits_97 : decode cL_deposits 97 = .ok (.ifCond .lt 45, 3) := by decide +kernel
theorem dL_deposits_100 : decode cL_deposits 100 = .ok (.aload_n 3, 1) := by decide +kernel
theorem dL_deposits_101 : decode cL_deposits 101 = .ok (.iconst 5, 1) := by decide +kernel
theorem dL_deposits_102 : decode cL_deposits 102 = .ok (.iload 4, 2) := by decide +kernel
theorem dL_deposits_104 : decode cL_deposits 104 = .ok (.iadd, 1) := by decide +kernel
theorem dL_deposits_105 : decode cL_deposits 105 = .ok (.iload 6, 2) := by decide +kernel
theorem dL_deposits_107 : decode cL_deposits 107 = .ok (.iastore, 1) := by decide +kernel
theorem dL_deposits_108 : decode cL_deposits 108 = .ok (.iconst 0, 1) := by decide +kernel
theorem dL_deposits_109 : decode cL_deposits 109 = .ok (.istore 7, 2) := by decide +kernel
theorem dL_deposits_111 : decode cL_deposits 111 = .ok (.iload 7, 2) := by decide +kernel
theorem dL_deposits_113 : decode cL_deposits 113 = .ok (.bipush 6, 2) := by decide +kernel
theorem dL_deposits_115 : decode cL_deposits 115 = .ok (.if_icmp .ge 27, 3) := by decide +kernel
theorem dL_deposits_118 : decode cL_deposits 118 = .ok (.aload_n 3, 1) := by decide +kernel
theorem dL_deposits_119 : decode cL_deposits 119 = .ok (.iconst 0, 1) := by decide +kernel
theorem dL_deposits_120 : decode cL_deposits 120 = .ok (.iaload, 1) := by decide +kernel
theorem dL_deposits_121 : decode cL_deposits 121 = .ok (.ifCond .ne 21, 3) := by decide +kernel
theorem dL_deposits_124 : decode cL_deposits 124 = .ok (.iload 5, 2) := by decide +kernel
theorem dL_deposits_126 : decode cL_deposits 126 = .ok (.ifCond .eq 16, 3) := by decide +kernel
theorem dL_deposits_129 : decode cL_deposits 129 = .ok (.iload 7, 2) := by decide +kernel
theorem dL_deposits_131 : decode cL_deposits 131 = .ok (.aload_n 2, 1) := by decide +kernel
theorem dL_deposits_132 : decode cL_deposits 132 = .ok (.aload_n 3, 1) := by decide +kernel
theorem dL_deposits_133 : decode cL_deposits 133 = .ok (.invokestatic 51, 3) := by decide +kernel
theorem dL_deposits_136 : decode cL_deposits 136 = .ok (.iinc 7 1, 3) := by decide +kernel
theorem dL_deposits_139 : decode cL_deposits 139 = .ok (.goto (-28), 3) := by decide +kernel
theorem dL_deposits_142 : decode cL_deposits 142 = .ok (.aload_n 0, 1) := by decide +kernel
theorem dL_deposits_143 : decode cL_deposits 143 = .ok (.iconst 1, 1) := by decide +kernel
theorem dL_deposits_144 : decode cL_deposits 144 = .ok (.iload 4, 2) := by decide +kernel
theorem dL_deposits_146 : decode cL_deposits 146 = .ok (.iload 5, 2) := by decide +kernel
theorem dL_deposits_148 : decode cL_deposits 148 = .ok (.invokestatic 101, 3) := by decide +kernel
theorem dL_deposits_151 : decode cL_deposits 151 = .ok (.iload 6, 2) := by decide +kernel
theorem dL_deposits_153 : decode cL_deposits 153 = .ok (.if_icmp .ne 7, 3) := by decide +kernel
theorem dL_deposits_156 : decode cL_deposits 156 = .ok (.iconst 1, 1) := by decide +kernel
theorem dL_deposits_157 : decode cL_deposits 157 = .ok (.goto 4, 3) := by decide +kernel
theorem dL_deposits_160 : decode cL_deposits 160 = .ok (.iconst 0, 1) := by decide +kernel
theorem dL_deposits_161 : decode cL_deposits 161 = .ok (.ireturn, 1) := by decide +kernel
set_option maxRecDepth 20000 in
theorem ggL_sets_L_low : GoodIn wsL_sets wsL_low := goodIn_r _ [4, 5] (by decide +kernel) (by decide +kernel)
set_option maxRecDepth 20000 in
theorem gL_sets_L_low : GoodIn wsL_sets (va_wsS RL 89 yL_low wsL_low) := goodIn_app (goodIn_of _ (by decide +kernel)) ggL_sets_L_low
set_option maxRecDepth 20000 in
theorem ggL_sets_X2_setRates : GoodIn wsL_sets wsX2_setRates := goodIn_ca (goodIn_r _ [10, 11, 12, 13, 14, 15, 23, 24, 25, 26, 27, 28, 29, 30, 31, 32, 33, 34, 35] (by decide +kernel) (by decide +kernel)) (goodIn_sub (fun _ h => List.mem_cons_of_mem _ (List.mem_append_left _ (List.mem_append_right _ h))) (by decide +kernel))
set_option maxRecDepth 20000 in
theorem gL_sets_X2_setRates : GoodIn wsL_sets (wsV RL 105 RX2 yX2_setRates wsX2_setRates) := goodIn_app (goodIn_of _ (by decide +kernel)) ggL_sets_X2_setRates
set_option maxRecDepth 20000 in
theorem ggL_sets_X2_setCurve : GoodIn wsL_sets wsX2_setCurve := goodIn_ca (goodIn_ca (goodIn_r _ [19, 20, 21, 11, 12, 22, 23, 24, 25, 26, 27, 28, 29, 30, 31, 32, 33, 34, 35] (by decide +kernel) (by decide +kernel)) (goodIn_sub (fun _ h => List.mem_cons_of_mem _ (List.mem_append_right _ h)) (by decide +kernel))) (goodIn_sub (fun _ h => List.mem_cons_of_mem _ (List.mem_append_left _ (List.mem_append_right _ h))) (by decide +kernel))
set_option maxRecDepth 20000 in
theorem gL_sets_X2_setCurve : GoodIn wsL_sets (wsV RL 109 RX2 yX2_setCurve wsX2_setCurve) := goodIn_app (goodIn_of _ (by decide +kernel)) ggL_sets_X2_setCurve
theorem dL_sets_0 : decode cL_sets 0 = .ok (.iload_n 1, 1) := by decide +kernel
theorem dL_sets_1 : decode cL_sets 1 = .ok (.iconst 3, 1) := by decide +kernel
theorem dL_sets_2 : decode cL_sets 2 = .ok (.invokestatic 89, 3) := by decide +kernel
theorem dL_sets_5 : decode cL_sets 5 = .ok (.ifCond .ne 54, 3) := by decide +kernel
theorem dL_sets_8 : decode cL_sets 8 = .ok (.aload_n 2, 1) := by decide +kernel
theorem dL_sets_9 : decode cL_sets 9 = .ok (.iconst 2, 1) := by decide +kernel
theorem dL_sets_10 : decode cL_sets 10 = .ok (.iload_n 1, 1) := by decide +kernel
theorem dL_sets_11 : decode cL_sets 11 = .ok (.iconst 2, 1) := by decide +kernel
theorem dL_sets_12 : decode cL_sets 12 = .ok (.ishr, 1) := by decide +kernel
theorem dL_sets_13 : decode cL_sets 13 = .ok (.sipush 5001, 3) := by decide +kernel
theorem dL_sets_16 : decode cL_sets 16 = .ok (.invokestatic 89, 3) := by decide +kernel
theorem dL_sets_19 : decode cL_sets 19 = .ok (.iastore, 1) := by decide +kernel
theorem dL_sets_20 : decode cL_sets 20 = .ok (.aload_n 2, 1) := by decide +kernel
theorem dL_sets_21 : decode cL_sets 21 = .ok (.iconst 3, 1) := by decide +kernel
theorem dL_sets_22 : decode cL_sets 22 = .ok (.iload_n 1, 1) := by decide +kernel
theorem dL_sets_23 : decode cL_sets 23 = .ok (.iconst 4, 1) := by decide +kernel
theorem dL_sets_24 : decode cL_sets 24 = .ok (.ishr, 1) := by decide +kernel
theorem dL_sets_25 : decode cL_sets 25 = .ok (.sipush 5001, 3) := by decide +kernel
theorem dL_sets_28 : decode cL_sets 28 = .ok (.invokestatic 89, 3) := by decide +kernel
theorem dL_sets_31 : decode cL_sets 31 = .ok (.iastore, 1) := by decide +kernel
theorem dL_sets_32 : decode cL_sets 32 = .ok (.aload_n 2, 1) := by decide +kernel
theorem dL_sets_33 : decode cL_sets 33 = .ok (.iconst 4, 1) := by decide +kernel
theorem dL_sets_34 : decode cL_sets 34 = .ok (.iload_n 1, 1) := by decide +kernel
theorem dL_sets_35 : decode cL_sets 35 = .ok (.bipush 6, 2) := by decide +kernel
theorem dL_sets_37 : decode cL_sets 37 = .ok (.ishr, 1) := by decide +kernel
theorem dL_sets_38 : decode cL_sets 38 = .ok (.bipush 101, 2) := by decide +kernel
theorem dL_sets_40 : decode cL_sets 40 = .ok (.invokestatic 89, 3) := by decide +kernel
theorem dL_sets_43 : decode cL_sets 43 = .ok (.iastore, 1) := by decide +kernel
theorem dL_sets_44 : decode cL_sets 44 = .ok (.aload_n 0, 1) := by decide +kernel
theorem dL_sets_45 : decode cL_sets 45 = .ok (.aload_n 2, 1) := by decide +kernel
theorem dL_sets_46 : decode cL_sets 46 = .ok (.iconst 2, 1) := by decide +kernel
theorem dL_sets_47 : decode cL_sets 47 = .ok (.iaload, 1) := by decide +kernel
theorem dL_sets_48 : decode cL_sets 48 = .ok (.aload_n 2, 1) := by decide +kernel
theorem dL_sets_49 : decode cL_sets 49 = .ok (.iconst 3, 1) := by decide +kernel
theorem dL_sets_50 : decode cL_sets 50 = .ok (.iaload, 1) := by decide +kernel
theorem dL_sets_51 : decode cL_sets 51 = .ok (.aload_n 2, 1) := by decide +kernel
theorem dL_sets_52 : decode cL_sets 52 = .ok (.iconst 4, 1) := by decide +kernel
theorem dL_sets_53 : decode cL_sets 53 = .ok (.iaload, 1) := by decide +kernel
theorem dL_sets_54 : decode cL_sets 54 = .ok (.invokevirtual 105, 3) := by decide +kernel
theorem dL_sets_57 : decode cL_sets 57 = .ok (.iconst 1, 1) := by decide +kernel
theorem dL_sets_58 : decode cL_sets 58 = .ok (.ireturn, 1) := by decide +kernel
theorem dL_sets_59 : decode cL_sets 59 = .ok (.iload_n 1, 1) := by decide +kernel
theorem dL_sets_60 : decode cL_sets 60 = .ok (.iconst 2, 1) := by decide +kernel
theorem dL_sets_61 : decode cL_sets 61 = .ok (.ishr, 1) := by decide +kernel
theorem dL_sets_62 : decode cL_sets 62 = .ok (.bipush 6, 2) := by decide +kernel
theorem dL_sets_64 : decode cL_sets 64 = .ok (.invokestatic 89, 3) := by decide +kernel
theorem dL_sets_67 : decode cL_sets 67 = .ok (.istore_n 3, 1) := by decide +kernel
theorem dL_sets_68 : decode cL_sets 68 = .ok (.aload_n 2, 1) := by decide +kernel
theorem dL_sets_69 : decode cL_sets 69 = .ok (.bipush 8, 2) := by decide +kernel
theorem dL_sets_71 : decode cL_sets 71 = .ok (.iload_n 3, 1) := by decide +kernel
theorem dL_sets_72 : decode cL_sets 72 = .ok (.iadd, 1) := by decide +kernel
theorem dL_sets_73 : decode cL_sets 73 = .ok (.iaload, 1) := by decide +kernel
theorem dL_sets_74 : decode cL_sets 74 = .ok (.istore 4, 2) := by decide +kernel
theorem dL_sets_76 : decode cL_sets 76 = .ok (.aload_n 2, 1) := by decide +kernel
theorem dL_sets_77 : decode cL_sets 77 = .ok (.bipush 8, 2) := by decide +kernel
theorem dL_sets_79 : decode cL_sets 79 = .ok (.iload_n 3, 1) := by decide +kernel
theorem dL_sets_80 : decode cL_sets 80 = .ok (.iadd, 1) := by decide +kernel
theorem dL_sets_81 : decode cL_sets 81 = .ok (.iload_n 1, 1) := by decide +kernel
theorem dL_sets_82 : decode cL_sets 82 = .ok (.iconst 4, 1) := by decide +kernel
theorem dL_sets_83 : decode cL_sets 83 = .ok (.ishr, 1) := by decide +kernel
theorem dL_sets_84 : decode cL_sets 84 = .ok (.sipush 5001, 3) := by decide +kernel
theorem dL_sets_87 : decode cL_sets 87 = .ok (.invokestatic 89, 3) := by decide +kernel
theorem dL_sets_90 : decode cL_sets 90 = .ok (.iastore, 1) := by decide +kernel
theorem dL_sets_91 : decode cL_sets 91 = .ok (.aload_n 0, 1) := by decide +kernel
theorem dL_sets_92 : decode cL_sets 92 = .ok (.iload_n 3, 1) := by decide +kernel
theorem dL_sets_93 : decode cL_sets 93 = .ok (.iconst 1, 1) := by decide +kernel
theorem dL_sets_94 : decode cL_sets 94 = .ok (.iadd, 1) := by decide +kernel
theorem dL_sets_95 : decode cL_sets 95 = .ok (.aload_n 2, 1) := by decide +kernel
theorem dL_sets_96 : decode cL_sets 96 = .ok (.bipush 8, 2) := by decide +kernel
theorem dL_sets_98 : decode cL_sets 98 = .ok (.iload_n 3, 1) := by decide +kernel
theorem dL_sets_99 : decode cL_sets 99 = .ok (.iadd, 1) := by decide +kernel
theorem dL_sets_100 : decode cL_sets 100 = .ok (.iaload, 1) := by decide +kernel
theorem dL_sets_101 : decode cL_sets 101 = .ok (.invokevirtual 109, 3) := by decide +kernel
theorem dL_sets_104 : decode cL_sets 104 = .ok (.iload 4, 2) := by decide +kernel
theorem dL_sets_106 : decode cL_sets 106 = .ok (.if_icmp .ne 7, 3) := by decide +kernel
theorem dL_sets_109 : decode cL_sets 109 = .ok (.iconst 1, 1) := by decide +kernel
theorem dL_sets_110 : decode cL_sets 110 = .ok (.goto 4, 3) := by decide +kernel
theorem dL_sets_113 : decode cL_sets 113 = .ok (.iconst 0, 1) := by decide +kernel
theorem dL_sets_114 : decode cL_sets 114 = .ok (.ireturn, 1) := by decide +kernel
end
section
set_option maxRecDepth 20000 in
theorem ggL_law_X2_init : GoodIn wsL_law wsX2_init := goodIn_r _ [6, 7, 8, 9, 3, 10, 11, 12, 13, 14, 15, 16, 17, 18, 19, 20, 21, 22, 23, 24, 25, 26, 27, 28, 29, 30, 31, 32, 272, 273, 274, 275, 276, 277, 278, 279, 280, 281, 282, 283, 284, 285, 286] (by decide +kernel) (by decide +kernel)
set_option maxRecDepth 20000 in
theorem gL_law_X2_init : GoodIn wsL_law (wsX2_init) := ggL_law_X2_init
set_option maxRecDepth 20000 in
theorem ggL_law_L_cell : GoodIn wsL_law wsL_cell := goodIn_r _ [36, 37, 38] (by decide +kernel) (by decide +kernel)
set_option maxRecDepth 20000 in
theorem gL_law_L_cell : GoodIn wsL_law (va_wsS RL 113 yL_cell wsL_cell) := goodIn_app (goodIn_of _ (by decide +kernel)) ggL_law_L_cell
set_option maxRecDepth 20000 in
theorem ggL_law_L_low : GoodIn wsL_law wsL_low := goodIn_r _ [41, 42] (by decide +kernel) (by decide +kernel)
set_option maxRecDepth 20000 in
theorem gL_law_L_low : GoodIn wsL_law (va_wsS RL 89 yL_low wsL_low) := goodIn_app (goodIn_of _ (by decide +kernel)) ggL_law_L_low
set_option maxRecDepth 20000 in
theorem ggL_law_L_lends : GoodIn wsL_law wsL_lends := goodIn_ca (goodIn_ca (goodIn_ca (goodIn_r _ [45, 46, 47, 39, 40, 35, 41, 42, 48, 49, 50, 2, 51, 52, 53, 54, 55, 56, 57, 58, 17, 12, 16, 15, 59, 60, 10, 61, 62, 63, 64, 65, 66, 67, 68, 69, 3, 70, 71, 72, 8, 9, 73, 74, 75, 76, 77, 78, 79, 80, 272, 273, 274, 275, 276, 277, 278, 279, 280, 281, 282, 283, 284, 287, 288, 289, 290, 291, 292, 293, 294] (by decide +kernel) (by decide +kernel)) (goodIn_sub (fun _ h => List.mem_append_left _ (List.mem_append_left _ (List.mem_append_right _ h))) (by decide +kernel))) (goodIn_sub (fun _ h => List.mem_append_left _ (List.mem_append_right _ h)) (by decide +kernel))) (goodIn_sub (fun _ h => List.mem_append_right _ h) (by decide +kernel))
set_option maxRecDepth 20000 in
theorem gL_law_L_lends : GoodIn wsL_law (va_wsS RL 117 yL_lends wsL_lends) := goodIn_app (goodIn_of _ (by decide +kernel)) ggL_law_L_lends
set_option maxRecDepth 20000 in
theorem ggL_law_L_sets : GoodIn wsL_law wsL_sets := goodIn_ca (goodIn_ca (goodIn_r _ [83, 39, 40, 35, 41, 42, 84, 85, 86, 2, 87, 54, 55, 11, 12, 13, 88, 89, 90, 91, 52, 53, 10, 272, 273, 274, 275, 276, 277, 278, 279, 280, 281, 282, 283, 284] (by decide +kernel) (by decide +kernel)) (goodIn_sub (fun _ h => List.mem_append_left _ (List.mem_append_right _ h)) (by decide +kernel))) (goodIn_sub (fun _ h => List.mem_append_left _ (List.mem_append_left _ (List.mem_append_right _ h))) (by decide +kernel))
set_option maxRecDepth 20000 in
theorem gL_law_L_sets : GoodIn wsL_law (va_wsS RL 121 yL_sets wsL_sets) := goodIn_app (goodIn_of _ (by decide +kernel)) ggL_law_L_sets
set_option maxRecDepth 20000 in
theorem ggL_law_L_deposits : GoodIn wsL_law wsL_deposits := goodIn_ca (goodIn_ca (goodIn_ca (goodIn_r _ [94, 95, 46, 96, 97, 39, 40, 35, 41, 42, 98, 99, 100, 101, 102, 103, 104, 105, 106, 107, 108, 2, 109, 52, 53, 56, 57, 110, 111, 112, 113, 16, 114, 60, 115, 116, 80, 78, 117, 118, 119, 120, 121, 122, 123, 54, 55, 124, 58, 18, 14, 22, 10, 125, 126, 127, 128, 129, 130, 131, 132, 13, 133, 134, 21, 135, 136, 137, 138, 139, 140, 31, 32, 141, 142, 143, 144, 145, 146, 147, 148, 24, 25, 26, 27, 149, 150, 151, 152, 153, 154, 155, 156, 157, 158, 159, 75, 160, 161, 162, 163, 164, 165, 166, 167, 79, 168, 169, 170, 171, 77, 172, 173, 174, 175, 176, 177, 178, 179, 11, 180, 181, 182, 183, 184, 185, 186, 187, 188, 189, 190, 191, 192, 193, 194, 287, 288, 289, 290, 291, 292, 293, 294, 272, 273, 274, 275, 276, 277, 278, 279, 280, 281, 282, 283, 284, 285, 286] (by decide +kernel) (by decide +kernel)) (goodIn_sub (fun _ h => List.mem_append_left _ (List.mem_append_left _ (List.mem_append_right _ h))) (by decide +kernel))) (goodIn_sub (fun _ h => List.mem_append_right _ h) (by decide +kernel))) (goodIn_sub (fun _ h => List.mem_append_left _ (List.mem_append_right _ h)) (by decide +kernel))
set_option maxRecDepth 20000 in
theorem gL_law_L_deposits : GoodIn wsL_law (va_wsS RL 125 yL_deposits wsL_deposits) := goodIn_app (goodIn_of _ (by decide +kernel)) ggL_law_L_deposits
set_option maxRecDepth 20000 in
theorem ggL_law_L_left : GoodIn wsL_law wsL_left := goodIn_r _ [197, 198, 199, 35, 200] (by decide +kernel) (by decide +kernel)
set_option maxRecDepth 20000 in
theorem gL_law_L_left : GoodIn wsL_law (va_wsS RL 32 yL_left wsL_left) := goodIn_app (goodIn_of _ (by decide +kernel)) ggL_law_L_left
set_option maxRecDepth 20000 in
theorem ggL_law_L_calls : GoodIn wsL_law wsL_calls := goodIn_ca (goodIn_ca (goodIn_ca (goodIn_r _ [104, 105, 106, 107, 108, 2, 109, 52, 53, 56, 57, 110, 111, 112, 113, 16, 114, 60, 115, 116, 80, 78, 117, 118, 119, 120, 121, 122, 123, 54, 55, 124, 58, 18, 14, 22, 10, 125, 126, 127, 128, 129, 130, 131, 132, 13, 133, 134, 21, 135, 136, 137, 138, 139, 140, 31, 32, 141, 142, 143, 144, 145, 146, 147, 148, 24, 25, 26, 27, 149, 150, 151, 152, 153, 154, 155, 156, 157, 158, 159, 75, 160, 161, 162, 163, 164, 165, 166, 167, 79, 168, 169, 170, 171, 77, 172, 173, 174, 175, 176, 177, 178, 179, 11, 180, 181, 182, 183, 184, 185, 186, 187, 188, 189, 190, 191, 192, 193, 194, 287, 288, 289, 290, 291, 292, 293, 294, 272, 273, 274, 275, 276, 277, 278, 279, 280, 281, 282, 283, 284, 285, 286] (by decide +kernel) (by decide +kernel)) (goodIn_sub (fun _ h => List.mem_append_left _ (List.mem_append_left _ (List.mem_append_right _ h))) (by decide +kernel))) (goodIn_sub (fun _ h => List.mem_append_right _ h) (by decide +kernel))) (goodIn_sub (fun _ h => List.mem_append_left _ (List.mem_append_right _ h)) (by decide +kernel))
set_option maxRecDepth 20000 in
theorem gL_law_L_calls : GoodIn wsL_law (va_wsS RL 101 yL_calls wsL_calls) := goodIn_app (goodIn_of _ (by decide +kernel)) ggL_law_L_calls
set_option maxRecDepth 20000 in
theorem ggL_law_L_closes : GoodIn wsL_law wsL_closes := goodIn_r _ [203, 204, 205, 206, 35, 207, 101, 208, 209, 210, 211, 212, 213, 195, 196, 197, 198, 199, 200, 98, 99, 100] (by decide +kernel) (by decide +kernel)
set_option maxRecDepth 20000 in
theorem gL_law_L_closes : GoodIn wsL_law (va_wsS RL 129 yL_closes wsL_closes) := goodIn_app (goodIn_of _ (by decide +kernel)) ggL_law_L_closes
set_option maxRecDepth 20000 in
theorem ggL_law_L_isSo : GoodIn wsL_law wsL_isSo := goodIn_ca (goodIn_ca (goodIn_r _ [216, 217, 218, 219, 2, 220, 14, 221, 222, 223, 224, 17, 225, 226, 227, 228, 22, 180, 21, 181, 182, 31, 32, 208, 209, 35, 210, 211, 212, 213, 204, 195, 196, 197, 198, 199, 200, 229, 230, 231, 232, 52, 53, 110, 111, 112, 113, 16, 114, 60, 115, 116, 80, 78, 233, 234, 235, 236, 54, 55, 157, 158, 159, 75, 160, 161, 162, 163, 165, 166, 167, 79, 169, 170, 171, 77, 153, 154, 155, 156, 164, 168, 237, 238, 239, 240, 241, 242, 243, 244, 245, 246, 247, 248, 249, 250, 251, 18, 252, 253, 254, 255, 24, 256, 257, 258, 259, 260, 261, 262, 263, 25, 264, 265, 266, 267, 26, 268, 269, 270, 271, 27, 272, 273, 274, 275, 276, 277, 278, 279, 280, 281, 282, 283, 284, 285, 286, 287, 288, 289, 290, 291, 292, 293, 294] (by decide +kernel) (by decide +kernel)) (goodIn_sub (fun _ h => List.mem_append_left _ (List.mem_append_left _ (List.mem_append_right _ h))) (by decide +kernel))) (goodIn_sub (fun _ h => List.mem_append_left _ (List.mem_append_right _ h)) (by decide +kernel))
set_option maxRecDepth 20000 in
theorem gL_law_L_isSo : GoodIn wsL_law (va_wsS RL 133 yL_isSo wsL_isSo) := goodIn_app (goodIn_of _ (by decide +kernel)) ggL_law_L_isSo
theorem dL_law_0 : decode cL_law 0 = .ok (.new 11, 3) := by decide +kernel
theorem dL_law_3 : decode cL_law 3 = .ok (.dup, 1) := by decide +kernel
theorem dL_law_4 : decode cL_law 4 = .ok (.invokespecial 112, 3) := by decide +kernel
theorem dL_law_7 : decode cL_law 7 = .ok (.astore_n 1, 1) := by decide +kernel
theorem dL_law_8 : decode cL_law 8 = .ok (.bipush 14, 2) := by decide +kernel
theorem dL_law_10 : decode cL_law 10 = .ok (.newarray .int, 2) := by decide +kernel
theorem dL_law_12 : decode cL_law 12 = .ok (.astore_n 2, 1) := by decide +kernel
theorem dL_law_13 : decode cL_law 13 = .ok (.bipush 64, 2) := by decide +kernel
theorem dL_law_15 : decode cL_law 15 = .ok (.newarray .int, 2) := by decide +kernel
theorem dL_law_17 : decode cL_law 17 = .ok (.astore_n 3, 1) := by decide +kernel
theorem dL_law_18 : decode cL_law 18 = .ok (.bipush 48, 2) := by decide +kernel
theorem dL_law_20 : decode cL_law 20 = .ok (.newarray .int, 2) := by decide +kernel
theorem dL_law_22 : decode cL_law 22 = .ok (.astore 4, 2) := by decide +kernel
theorem dL_law_24 : decode cL_law 24 = .ok (.bipush 12, 2) := by decide +kernel
theorem dL_law_26 : decode cL_law 26 = .ok (.newarray .int, 2) := by decide +kernel
theorem dL_law_28 : decode cL_law 28 = .ok (.astore 5, 2) := by decide +kernel
theorem dL_law_30 : decode cL_law 30 = .ok (.bipush 64, 2) := by decide +kernel
theorem dL_law_32 : decode cL_law 32 = .ok (.newarray .int, 2) := by decide +kernel
theorem dL_law_34 : decode cL_law 34 = .ok (.astore 6, 2) := by decide +kernel
theorem dL_law_36 : decode cL_law 36 = .ok (.aload_n 2, 1) := by decide +kernel
theorem dL_law_37 : decode cL_law 37 = .ok (.iconst 4, 1) := by decide +kernel
theorem dL_law_38 : decode cL_law 38 = .ok (.bipush 50, 2) := by decide +kernel
theorem dL_law_40 : decode cL_law 40 = .ok (.iastore, 1) := by decide +kernel
theorem dL_law_41 : decode cL_law 41 = .ok (.iconst 0, 1) := by decide +kernel
theorem dL_law_42 : decode cL_law 42 = .ok (.istore 7, 2) := by decide +kernel
theorem dL_law_44 : decode cL_law 44 = .ok (.iload 7, 2) := by decide +kernel
theorem dL_law_46 : decode cL_law 46 = .ok (.bipush 110, 2) := by decide +kernel
theorem dL_law_48 : decode cL_law 48 = .ok (.if_icmp .ge 303, 3) := by decide +kernel
theorem dL_law_51 : decode cL_law 51 = .ok (.aload_n 0, 1) := by decide +kernel
theorem dL_law_52 : decode cL_law 52 = .ok (.iload 7, 2) := by decide +kernel
theorem dL_law_54 : decode cL_law 54 = .ok (.invokestatic 113, 3) := by decide +kernel
theorem dL_law_57 : decode cL_law 57 = .ok (.istore 8, 2) := by decide +kernel
theorem dL_law_59 : decode cL_law 59 = .ok (.iload 7, 2) := by decide +kernel
theorem dL_law_61 : decode cL_law 61 = .ok (.bipush 6, 2) := by decide +kernel
theorem dL_law_63 : decode cL_law 63 = .ok (.if_icmp .ge 7, 3) := by decide +kernel
theorem dL_law_66 : decode cL_law 66 = .ok (.iconst 3, 1) := by decide +kernel
theorem dL_law_67 : decode cL_law 67 = .ok (.goto 10, 3) := by decide +kernel
theorem dL_law_70 : decode cL_law 70 = .ok (.iload 8, 2) := by decide +kernel
theorem dL_law_72 : decode cL_law 72 = .ok (.bipush 16, 2) := by decide +kernel
theorem dL_law_74 : decode cL_law 74 = .ok (.invokestatic 89, 3) := by decide +kernel
theorem dL_law_77 : decode cL_law 77 = .ok (.istore 9, 2) := by decide +kernel
theorem dL_law_79 : decode cL_law 79 = .ok (.iconst 1, 1) := by decide +kernel
theorem dL_law_80 : decode cL_law 80 = .ok (.istore 10, 2) := by decide +kernel
theorem dL_law_82 : decode cL_law 82 = .ok (.iload 9, 2) := by decide +kernel
theorem dL_law_84 : decode cL_law 84 = .ok (.iconst 2, 1) := by decide +kernel
theorem dL_law_85 : decode cL_law 85 = .ok (.if_icmp .ge 20, 3) := by decide +kernel
theorem dL_law_88 : decode cL_law 88 = .ok (.aload_n 1, 1) := by decide +kernel
theorem dL_law_89 : decode cL_law 89 = .ok (.iload 8, 2) := by decide +kernel
theorem dL_law_91 : decode cL_law 91 = .ok (.iconst 3, 1) := by decide +kernel
theorem dL_law_92 : decode cL_law 92 = .ok (.ishr, 1) := by decide +kernel
theorem dL_law_93 : decode cL_law 93 = .ok (.aload_n 3, 1) := by decide +kernel
theorem dL_law_94 : decode cL_law 94 = .ok (.aload 4, 2) := by decide +kernel
theorem dL_law_96 : decode cL_law 96 = .ok (.aload_n 2, 1) := by decide +kernel
theorem dL_law_97 : decode cL_law 97 = .ok (.invokestatic 117, 3) := by decide +kernel
theorem dL_law_100 : decode cL_law 100 = .ok (.istore 10, 2) := by decide +kernel
theorem dL_law_102 : decode cL_law 102 = .ok (.goto 221, 3) := by decide +kernel
theorem dL_law_105 : decode cL_law 105 = .ok (.iload 9, 2) := by decide +kernel
theorem dL_law_107 : decode cL_law 107 = .ok (.iconst 5, 1) := by decide +kernel
theorem dL_law_108 : decode cL_law 108 = .ok (.if_icmp .ge 17, 3) := by decide +kernel
theorem dL_law_111 : decode cL_law 111 = .ok (.aload_n 1, 1) := by decide +kernel
theorem dL_law_112 : decode cL_law 112 = .ok (.iload 8, 2) := by decide +kernel
theorem dL_law_114 : decode cL_law 114 = .ok (.iconst 3, 1) := by decide +kernel
theorem dL_law_115 : decode cL_law 115 = .ok (.ishr, 1) := by decide +kernel
theorem dL_law_116 : decode cL_law 116 = .ok (.aload_n 2, 1) := by decide +kernel
theorem dL_law_117 : decode cL_law 117 = .ok (.invokestatic 121, 3) := by decide +kernel
theorem dL_law_120 : decode cL_law 120 = .ok (.istore 10, 2) := by decide +kernel
theorem dL_law_122 : decode cL_law 122 = .ok (.goto 201, 3) := by decide +kernel
theorem dL_law_125 : decode cL_law 125 = .ok (.iload 9, 2) := by decide +kernel
theorem dL_law_127 : decode cL_law 127 = .ok (.bipush 9, 2) := by decide +kernel
theorem dL_law_129 : decode cL_law 129 = .ok (.if_icmp .ge 19, 3) := by decide +kernel
theorem dL_law_132 : decode cL_law 132 = .ok (.aload_n 1, 1) := by decide +kernel
theorem dL_law_133 : decode cL_law 133 = .ok (.iload 8, 2) := by decide +kernel
theorem dL_law_135 : decode cL_law 135 = .ok (.iconst 3, 1) := by decide +kernel
theorem dL_law_136 : decode cL_law 136 = .ok (.ishr, 1) := by decide +kernel
theorem dL_law_137 : decode cL_law 137 = .ok (.aload 5, 2) := by decide +kernel
theorem dL_law_139 : decode cL_law 139 = .ok (.aload_n 2, 1) := by decide +kernel
theorem dL_law_140 : decode cL_law 140 = .ok (.invokestatic 125, 3) := by decide +kernel
theorem dL_law_143 : decode cL_law 143 = .ok (.istore 10, 2) := by decide +kernel
theorem dL_law_145 : decode cL_law 145 = .ok (.goto 178, 3) := by decide +kernel
theorem dL_law_148 : decode cL_law 148 = .ok (.iload 9, 2) := by decide +kernel
theorem dL_law_150 : decode cL_law 150 = .ok (.bipush 9, 2) := by decide +kernel
theorem dL_law_152 : decode cL_law 152 = .ok (.if_icmp .ne 109, 3) := by decide +kernel
theorem dL_law_155 : decode cL_law 155 = .ok (.aload_n 2, 1) := by decide +kernel
theorem dL_law_156 : decode cL_law 156 = .ok (.iconst 1, 1) := by decide +kernel
theorem dL_law_157 : decode cL_law 157 = .ok (.iaload, 1) := by decide +kernel
theorem dL_law_158 : decode cL_law 158 = .ok (.ifCond .le 103, 3) := by decide +kernel
theorem dL_law_161 : decode cL_law 161 = .ok (.iload 8, 2) := by decide +kernel
theorem dL_law_163 : decode cL_law 163 = .ok (.iconst 4, 1) := by decide +kernel
theorem dL_law_164 : decode cL_law 164 = .ok (.ishr, 1) := by decide +kernel
theorem dL_law_165 : decode cL_law 165 = .ok (.aload_n 2, 1) := by decide +kernel
theorem dL_law_166 : decode cL_law 166 = .ok (.iconst 1, 1) := by decide +kernel
theorem dL_law_167 : decode cL_law 167 = .ok (.iaload, 1) := by decide +kernel
theorem dL_law_168 : decode cL_law 168 = .ok (.invokestatic 89, 3) := by decide +kernel
theorem dL_law_171 : decode cL_law 171 = .ok (.istore 11, 2) := by decide +kernel
theorem dL_law_173 : decode cL_law 173 = .ok (.iload 11, 2) := by decide +kernel
theorem dL_law_175 : decode cL_law 175 = .ok (.aload_n 3, 1) := by decide +kernel
theorem dL_law_176 : decode cL_law 176 = .ok (.aload_n 2, 1) := by decide +kernel
theorem dL_law_177 : decode cL_law 177 = .ok (.invokestatic 32, 3) := by decide +kernel
theorem dL_law_180 : decode cL_law 180 = .ok (.istore 12, 2) := by decide +kernel
theorem dL_law_182 : decode cL_law 182 = .ok (.aload_n 3, 1) := by decide +kernel
theorem dL_law_183 : decode cL_law 183 = .ok (.bipush 8, 2) := by decide +kernel
theorem dL_law_185 : decode cL_law 185 = .ok (.iload 11, 2) := by decide +kernel
theorem dL_law_187 : decode cL_law 187 = .ok (.imul, 1) := by decide +kernel
theorem dL_law_188 : decode cL_law 188 = .ok (.bipush 6, 2) := by decide +kernel
theorem dL_law_190 : decode cL_law 190 = .ok (.iadd, 1) := by decide +kernel
theorem dL_law_191 : decode cL_law 191 = .ok (.iaload, 1) := by decide +kernel
theorem dL_law_192 : decode cL_law 192 = .ok (.ifCond .lt 8, 3) := by decide +kernel
theorem dL_law_195 : decode cL_law 195 = .ok (.iload 12, 2) := by decide +kernel
theorem dL_law_197 : decode cL_law 197 = .ok (.ifCond .ne 8, 3) := by decide +kernel
theorem dL_law_200 : decode cL_law 200 = .ok (.bipush (-3), 2) := by decide +kernel
theorem dL_law_202 : decode cL_law 202 = .ok (.goto 5, 3) := by decide +kernel
theorem dL_law_205 : decode cL_law 205 = .ok (.iload 12, 2) := by decide +kernel
theorem dL_law_207 : decode cL_law 207 = .ok (.istore 13, 2) := by decide +kernel
theorem dL_law_209 : decode cL_law 209 = .ok (.aload_n 3, 1) := by decide +kernel
theorem dL_law_210 : decode cL_law 210 = .ok (.bipush 8, 2) := by decide +kernel
theorem dL_law_212 : decode cL_law 212 = .ok (.iload 11, 2) := by decide +kernel
theorem dL_law_214 : decode cL_law 214 = .ok (.imul, 1) := by decide +kernel
theorem dL_law_215 : decode cL_law 215 = .ok (.bipush 7, 2) := by decide +kernel
theorem dL_law_217 : decode cL_law 217 = .ok (.iadd, 1) := by decide +kernel
theorem dL_law_218 : decode cL_law 218 = .ok (.iload 13, 2) := by decide +kernel
theorem dL_law_220 : decode cL_law 220 = .ok (.ifCond .le 7, 3) := by decide +kernel
theorem dL_law_223 : decode cL_law 223 = .ok (.iconst 1, 1) := by decide +kernel
theorem dL_law_224 : decode cL_law 224 = .ok (.goto 13, 3) := by decide +kernel
theorem dL_law_227 : decode cL_law 227 = .ok (.aload_n 3, 1) := by decide +kernel
theorem dL_law_228 : decode cL_law 228 = .ok (.bipush 8, 2) := by decide +kernel
theorem dL_law_230 : decode cL_law 230 = .ok (.iload 11, 2) := by decide +kernel
theorem dL_law_232 : decode cL_law 232 = .ok (.imul, 1) := by decide +kernel
theorem dL_law_233 : decode cL_law 233 = .ok (.bipush 7, 2) := by decide +kernel
theorem dL_law_235 : decode cL_law 235 = .ok (.iadd, 1) := by decide +kernel
theorem dL_law_236 : decode cL_law 236 = .ok (.iaload, 1) := by decide +kernel
theorem dL_law_237 : decode cL_law 237 = .ok (.iastore, 1) := by decide +kernel
theorem dL_law_238 : decode cL_law 238 = .ok (.aload_n 1, 1) := by decide +kernel
theorem dL_law_239 : decode cL_law 239 = .ok (.iconst 0, 1) := by decide +kernel
theorem dL_law_240 : decode cL_law 240 = .ok (.iload 11, 2) := by decide +kernel
theorem dL_law_242 : decode cL_law 242 = .ok (.iconst 0, 1) := by decide +kernel
theorem dL_law_243 : decode cL_law 243 = .ok (.invokestatic 101, 3) := by decide +kernel
theorem dL_law_246 : decode cL_law 246 = .ok (.iload 13, 2) := by decide +kernel
theorem dL_law_248 : decode cL_law 248 = .ok (.if_icmp .ne 7, 3) := by decide +kernel
theorem dL_law_251 : decode cL_law 251 = .ok (.iconst 1, 1) := by decide +kernel
theorem dL_law_252 : decode cL_law 252 = .ok (.goto 4, 3) := by decide +kernel
theorem dL_law_255 : decode cL_law 255 = .ok (.iconst 0, 1) := by decide +kernel
theorem dL_law_256 : decode cL_law 256 = .ok (.istore 10, 2) := by decide +kernel
theorem dL_law_258 : decode cL_law 258 = .ok (.goto 65, 3) := by decide +kernel
theorem dL_law_261 : decode cL_law 261 = .ok (.iload 9, 2) := by decide +kernel
theorem dL_law_263 : decode cL_law 263 = .ok (.bipush 10, 2) := by decide +kernel
theorem dL_law_265 : decode cL_law 265 = .ok (.if_icmp .le 58, 3) := by decide +kernel
theorem dL_law_268 : decode cL_law 268 = .ok (.aload_n 2, 1) := by decide +kernel
theorem dL_law_269 : decode cL_law 269 = .ok (.iconst 0, 1) := by decide +kernel
theorem dL_law_270 : decode cL_law 270 = .ok (.iaload, 1) := by decide +kernel
theorem dL_law_271 : decode cL_law 271 = .ok (.bipush 47, 2) := by decide +kernel
theorem dL_law_273 : decode cL_law 273 = .ok (.if_icmp .ne 8, 3) := by decide +kernel
theorem dL_law_276 : decode cL_law 276 = .ok (.bipush (-3), 2) := by decide +kernel
theorem dL_law_278 : decode cL_law 278 = .ok (.goto 8, 3) := by decide +kernel
theorem dL_law_281 : decode cL_law 281 = .ok (.aload_n 2, 1) := by decide +kernel
theorem dL_law_282 : decode cL_law 282 = .ok (.iconst 0, 1) := by decide +kernel
theorem dL_law_283 : decode cL_law 283 = .ok (.iaload, 1) := by decide +kernel
theorem dL_law_284 : decode cL_law 284 = .ok (.iconst 1, 1) := by decide +kernel
theorem dL_law_285 : decode cL_law 285 = .ok (.iadd, 1) := by decide +kernel
theorem dL_law_286 : decode cL_law 286 = .ok (.istore 11, 2) := by decide +kernel
theorem dL_law_288 : decode cL_law 288 = .ok (.iload 11, 2) := by decide +kernel
theorem dL_law_290 : decode cL_law 290 = .ok (.ifCond .le 14, 3) := by decide +kernel
theorem dL_law_293 : decode cL_law 293 = .ok (.aload_n 3, 1) := by decide +kernel
theorem dL_law_294 : decode cL_law 294 = .ok (.aload 4, 2) := by decide +kernel
theorem dL_law_296 : decode cL_law 296 = .ok (.aload 5, 2) := by decide +kernel
theorem dL_law_298 : decode cL_law 298 = .ok (.aload 6, 2) := by decide +kernel
theorem dL_law_300 : decode cL_law 300 = .ok (.aload_n 2, 1) := by decide +kernel
theorem dL_law_301 : decode cL_law 301 = .ok (.invokestatic 129, 3) := by decide +kernel
theorem dL_law_304 : decode cL_law 304 = .ok (.aload_n 1, 1) := by decide +kernel
theorem dL_law_305 : decode cL_law 305 = .ok (.iconst 2, 1) := by decide +kernel
theorem dL_law_306 : decode cL_law 306 = .ok (.iconst 0, 1) := by decide +kernel
theorem dL_law_307 : decode cL_law 307 = .ok (.iconst 0, 1) := by decide +kernel
theorem dL_law_308 : decode cL_law 308 = .ok (.invokestatic 101, 3) := by decide +kernel
theorem dL_law_311 : decode cL_law 311 = .ok (.iload 11, 2) := by decide +kernel
theorem dL_law_313 : decode cL_law 313 = .ok (.if_icmp .ne 7, 3) := by decide +kernel
theorem dL_law_316 : decode cL_law 316 = .ok (.iconst 1, 1) := by decide +kernel
theorem dL_law_317 : decode cL_law 317 = .ok (.goto 4, 3) := by decide +kernel
theorem dL_law_320 : decode cL_law 320 = .ok (.iconst 0, 1) := by decide +kernel
theorem dL_law_321 : decode cL_law 321 = .ok (.istore 10, 2) := by decide +kernel
theorem dL_law_323 : decode cL_law 323 = .ok (.iload 10, 2) := by decide +kernel
theorem dL_law_325 : decode cL_law 325 = .ok (.ifCond .eq 18, 3) := by decide +kernel
theorem dL_law_328 : decode cL_law 328 = .ok (.aload_n 1, 1) := by decide +kernel
theorem dL_law_329 : decode cL_law 329 = .ok (.aload_n 3, 1) := by decide +kernel
theorem dL_law_330 : decode cL_law 330 = .ok (.aload 4, 2) := by decide +kernel
theorem dL_law_332 : decode cL_law 332 = .ok (.aload 5, 2) := by decide +kernel
theorem dL_law_334 : decode cL_law 334 = .ok (.aload 6, 2) := by decide +kernel
theorem dL_law_336 : decode cL_law 336 = .ok (.aload_n 2, 1) := by decide +kernel
theorem dL_law_337 : decode cL_law 337 = .ok (.invokestatic 133, 3) := by decide +kernel
theorem dL_law_340 : decode cL_law 340 = .ok (.ifCond .ne 5, 3) := by decide +kernel
theorem dL_law_343 : decode cL_law 343 = .ok (.iconst 0, 1) := by decide +kernel
theorem dL_law_344 : decode cL_law 344 = .ok (.ireturn, 1) := by decide +kernel
theorem dL_law_345 : decode cL_law 345 = .ok (.iinc 7 1, 3) := by decide +kernel
theorem dL_law_348 : decode cL_law 348 = .ok (.goto (-304), 3) := by decide +kernel
theorem dL_law_351 : decode cL_law 351 = .ok (.iconst 1, 1) := by decide +kernel
theorem dL_law_352 : decode cL_law 352 = .ok (.ireturn, 1) := by decide +kernel
abbrev vwCl : List vw_C := [(RX0, TX0, 8), (RX1, TX1, 2), (RX2, TX2, 13)]
end
section
/-! ===== base (mine): abstract states, worlds, words that travel, contracts' forms, rows over them ===== -/
/-- one place of a table of rows -/
def u2 (v : Nat → Nat → Int32) (j k : Nat) (x : Int32) : Nat → Nat → Int32 := fun j' => if j' = j then upd (v j) k x else v j'
theorem u2_s {v : Nat → Nat → Int32} {j k : Nat} {x : Int32} : u2 v j k x j k = x := by simp [u2, upd]
theorem u2_j {v : Nat → Nat → Int32} {j k j' : Nat} {x : Int32} (h : j' ≠ j) : u2 v j k x j' = v j' := if_neg h
theorem u2_k {v : Nat → Nat → Int32} {j k k' : Nat} {x : Int32} (h : k' ≠ k) : u2 v j k x j k' = v j k' := by simp [u2, upd, h]
theorem u2_jk {v : Nat → Nat → Int32} {j k j' k' : Nat} {x : Int32} (h : j' ≠ j ∨ k' ≠ k) : u2 v j k x j' k' = v j' k' := by
  by_cases e : j' = j
  · subst e
    exact u2_k (h.resolve_left (fun z => z rfl))
  · rw [u2_j e]
/-- one row of a table of rows -/
def u1 (v : Nat → Nat → Int32) (j : Nat) (g : Nat → Int32) : Nat → Nat → Int32 := fun j' => if j' = j then g else v j'

/-- the book: its object (a 13), its rows; n loans, loan i at la i 0, its rows at la i 1, la i 2 -/
def bkF (a : Nat → Nat) (b : Nat → Nat → Int32) : List Value := [.ref (a 0), .int (b 13 1), .int (b 13 2), .int (b 13 3), .int (b 13 4), .ref (a 5), .int (b 13 6), .ref (a 7), .ref (a 8), .ref (a 9), .ref (a 10), .ref (a 11), .ref (a 12)]
def lrF (n : Nat) (la : Nat → Nat → Nat) : Nat → Option Nat := fun i => if i < n then some (la i 0) else none
def bkX (y : Nat → ClassId) (a : Nat → Nat) (b : Nat → Nat → Int32) (n : Nat) (la : Nat → Nat → Nat) : va_W := [(a 13, .inr (2, bkF a b)), (a 0, .inl (y 0, 6, .inl (b 0))), (a 5, .inl (y 2, 24, .inr (.inr (.inr (.inr (lrF n la)))))), (a 7, .inl (y 0, 3, .inl (b 7))), (a 8, .inr (1, [.ref (a 14), .ref (a 15)])), (a 14, .inl (y 0, 6, .inl (b 14))), (a 15, .inl (y 0, 6, .inl (b 15))), (a 9, .inl (y 3, 3, .inr (.inr (.inr (.inr (fun i => if i < 3 then some (a (16 + i)) else none)))))), (a 16, .inl (y 0, 47, .inl (b 16))), (a 17, .inl (y 0, 47, .inl (b 17))), (a 18, .inl (y 0, 47, .inl (b 18))), (a 10, .inl (y 3, 3, .inr (.inr (.inr (.inr (fun i => if i < 3 then some (a (19 + i)) else none)))))), (a 19, .inl (y 0, 47, .inl (b 19))), (a 20, .inl (y 0, 47, .inl (b 20))), (a 21, .inl (y 0, 47, .inl (b 21))), (a 11, .inl (y 0, 47, .inl (b 11))), (a 12, .inl (y 0, 47, .inl (b 12)))]
def lnF (la : Nat → Nat → Nat) (L : Nat → Nat → Nat → Int32) (i : Nat) : List Value := [.int (L i 0 0), .int (L i 0 1), .int (L i 0 2), .int (L i 0 3), .int (L i 0 4), .ref (la i 1), .ref (la i 2), .int (L i 0 7)]
def lnC (y : Nat → ClassId) (la : Nat → Nat → Nat) (L : Nat → Nat → Nat → Int32) (i : Nat) : va_W := [(la i 0, .inr (0, lnF la L i)), (la i 1, .inl (y 0, 6, .inl (L i 1))), (la i 2, .inl (y 0, 6, .inl (L i 2)))]
def lnW (y : Nat → ClassId) (la : Nat → Nat → Nat) (L : Nat → Nat → Nat → Int32) : Nat → va_W
  | 0 => []
  | n + 1 => lnW y la L n ++ lnC y la L n
def bkW (y : Nat → ClassId) (a : Nat → Nat) (b : Nat → Nat → Int32) (n : Nat) (la : Nat → Nat → Nat) (L : Nat → Nat → Nat → Int32) : va_W := bkX y a b n la ++ lnW y la L n
theorem lnW_len {y : Nat → ClassId} {la : Nat → Nat → Nat} {L : Nat → Nat → Nat → Int32} : ∀ n : Nat, (lnW y la L n).length = 3 * n
  | 0 => rfl
  | n + 1 => by rw [lnW, List.length_append, lnW_len n]; rfl
theorem lnW_get {y : Nat → ClassId} {la : Nat → Nat → Nat} {L : Nat → Nat → Nat → Int32} {i j : Nat} (hj : j < 3) : ∀ {n : Nat}, i < n → (lnW y la L n)[3 * i + j]? = (lnC y la L i)[j]?
  | 0, h => absurd h (Nat.not_lt_zero _)
  | n + 1, h => by
    rw [lnW]
    by_cases e : i = n
    · subst e
      rw [List.getElem?_append_right (by rw [lnW_len]; omega), lnW_len, show 3 * i + j - 3 * i = j by omega]
    · rw [List.getElem?_append_left (by rw [lnW_len]; omega)]
      exact lnW_get hj (by omega)
theorem bkW_get {y : Nat → ClassId} {a : Nat → Nat} {b : Nat → Nat → Int32} {n : Nat} {la : Nat → Nat → Nat} {L : Nat → Nat → Nat → Int32} {i : Nat} (h : i < n) (j : Nat) (hj : j < 3) : (bkW y a b n la L)[17 + 3 * i + j]? = (lnC y la L i)[j]? := by
  rw [bkW, List.getElem?_append_right (by simp [bkX]; omega), show (bkX y a b n la).length = 17 from rfl, show 17 + 3 * i + j - 17 = 3 * i + j by omega]
  exact lnW_get hj h
theorem lnW_congr {y : Nat → ClassId} {la la' : Nat → Nat → Nat} {L L' : Nat → Nat → Nat → Int32} : ∀ {n : Nat}, (∀ i, i < n → la i = la' i) → (∀ i, i < n → L i = L' i) → lnW y la L n = lnW y la' L' n
  | 0, _, _ => rfl
  | n + 1, h1, h2 => by
    rw [lnW, lnW, lnW_congr (fun i hi => h1 i (by omega)) (fun i hi => h2 i (by omega))]
    simp only [lnC, lnF, h1 n (by omega), h2 n (by omega)]
/-- loan i's count of parts paid -/
def u3 (L : Nat → Nat → Nat → Int32) (i : Nat) (x : Int32) : Nat → Nat → Nat → Int32 := fun i' => if i' = i then u2 (L i) 0 7 x else L i'
theorem lnW_set {y : Nat → ClassId} {la : Nat → Nat → Nat} {L : Nat → Nat → Nat → Int32} {i : Nat} {x : Int32} : ∀ {n : Nat}, i < n → (lnW y la L n).set (3 * i) (la i 0, .inr (0, (lnF la L i).set 7 (.int x))) = lnW y la (u3 L i x) n
  | 0, h => absurd h (Nat.not_lt_zero _)
  | n + 1, h => by
    rw [lnW, lnW]
    by_cases e : i = n
    · subst e
      rw [List.set_append_right _ _ (by rw [lnW_len]; omega), lnW_len, Nat.sub_self, lnW_congr (la' := la) (L' := u3 L i x) (fun _ _ => rfl) (fun j hj => by simp [u3, show j ≠ i by omega])]
      congr 1
      simp [lnC, lnF, u3, u2, upd]
    · rw [List.set_append_left _ _ (by rw [lnW_len]; omega), lnW_set (by omega)]
      congr 1
      simp [lnC, lnF, u3, show n ≠ i by omega]
theorem bkW_set {y : Nat → ClassId} {a : Nat → Nat} {b : Nat → Nat → Int32} {n : Nat} {la : Nat → Nat → Nat} {L : Nat → Nat → Nat → Int32} {i : Nat} {x : Int32} (h : i < n) : (bkW y a b n la L).set (17 + 3 * i) (la i 0, .inr (0, (lnF la L i).set 7 (.int x))) = bkW y a b n la (u3 L i x) := by
  rw [bkW, List.set_append_right _ _ (show 17 ≤ 17 + 3 * i by omega), show (bkX y a b n la).length = 17 from rfl, show 17 + 3 * i - 17 = 3 * i by omega, lnW_set h, bkW]

/-- words of nest mates: they travel with the machine, but are no good words -/
def twH : List Cond := [.methodLinkNest "FundBook" 40 ⟨"FundBook$Replica", "<init>", "()V"⟩ "FundBook", .fieldLinkNest "FundBook" 171 "FundBook$Replica" "amounts" "[I" "FundBook", .methodLinkNest "FundBook" 107 ⟨"FundBook$Loan", "unpaid", "()I"⟩ "FundBook", .methodLinkNest "FundBook" 117 ⟨"FundBook$Loan", "settle", "()V"⟩ "FundBook", .methodLinkNest "FundBook" 130 ⟨"FundBook$Replica", "layAll", "(II)V"⟩ "FundBook", .methodLinkNest "FundBook" 158 ⟨"FundBook$Loan", "ownMargin", "()I"⟩ "FundBook", .methodLinkNest "FundBook$Loan" 42 ⟨"FundBook", "forOneMonth", "(J)I"⟩ "FundBook", .methodLinkNest "FundBook" 152 ⟨"FundBook$Loan", "funding", "()I"⟩ "FundBook", .methodLinkNest "FundBook" 155 ⟨"FundBook$Loan", "optionCharge", "()I"⟩ "FundBook", .methodLinkNest "FundBook" 149 ⟨"FundBook$Loan", "customerInterest", "()I"⟩ "FundBook", .methodLinkNest "FundBook" 174 ⟨"FundBook$Replica", "averageRate", "()I"⟩ "FundBook", .methodLinkNest "FundBook" 214 ⟨"FundBook$Loan", "payPart", "()V"⟩ "FundBook", .methodLinkNest "FundBook" 145 ⟨"FundBook$Replica", "lay", "(III)V"⟩ "FundBook", .methodLinkNest "FundBook" 165 ⟨"FundBook$Loan", "partAhead", "(I)I"⟩ "FundBook", .methodLinkNest "FundBook" 98 ⟨"FundBook$Loan", "<init>", "(IIIZI[I[I)V"⟩ "FundBook", .fieldLinkNest "FundBook" 201 "FundBook$Loan" "branch" "I" "FundBook", .fieldLinkNest "FundBook" 204 "FundBook$Loan" "product" "I" "FundBook", .fieldLinkNest "FundBook" 111 "FundBook$Loan" "hasOption" "Z" "FundBook"]
def twC : List (String × String) := [("java/lang/IndexOutOfBoundsException", "java/lang/IndexOutOfBoundsException"), ("java/lang/IllegalStateException", "java/lang/IllegalStateException"), ("java/lang/IllegalArgumentException", "java/lang/IllegalArgumentException"), ("[I", "java/lang/Cloneable")]
def twS : List (Nat × String) := [(105, "no such loan"), (115, "it has no option, or is paid back"), (120, "no such branch"), (123, "change out of range"), (125, "balance out of range"), (134, "it is the last month"), (161, "what out of range"), (163, "ahead out of range"), (169, "no such tranche"), (181, "no such branch, or the month has not ended"), (183, "no such product, or the month has not ended"), (185, "the month has not ended"), (77, "no such branch or product"), (80, "amount out of range"), (68, "rate out of range"), (82, "months out of range"), (86, "there are 24 loans"), (71, "deposit rate out of range"), (73, "option rate out of range"), (75, "core share out of range"), (61, "no such term")]
def twN : List (String × String) := []
def twD : List MethodName := [⟨"java/lang/RuntimeException", "<init>", "()V"⟩, ⟨"java/lang/RuntimeException", "<init>", "(Ljava/lang/String;)V"⟩, ⟨"java/lang/Exception", "<init>", "()V"⟩, ⟨"java/lang/Exception", "<init>", "(Ljava/lang/String;)V"⟩, ⟨"java/lang/Throwable", "<init>", "()V"⟩, ⟨"java/lang/Throwable", "<init>", "(Ljava/lang/String;)V"⟩]
def Tw (U : State) : Prop := (∀ w ∈ twH, w.before #[] U = true) ∧ (∀ q ∈ twC, va_Nw (.castable q.1 q.2) U) ∧ (∀ q ∈ twS, ∃ sa, vk_R RX2 q.1 q.2 sa U) ∧ (∀ q ∈ twN, va_Nc q.1 q.2 U) ∧ (∀ q ∈ twD, va_Nw (.declares q) U)
theorem Tw.moved {s U : State} (hW : s.WarmedH U.vm) (h : Tw s) : Tw U := by
  refine ⟨fun w hw => ?_, fun q hq => va_Nw.warmC hW (h.2.1 q hq), fun q hq => ?_, fun q hq => (h.2.2.2.1 q hq).moved hW.alike, fun q hq => va_Nw.warmD hW (h.2.2.2.2 q hq)⟩
  · have hh : ∀ w ∈ twH, w.onTables = true ∧ w.keepsH = true := by decide +kernel
    have h1 := Cond.onTables_warmH (T := U) (args' := #[]) hW (hh w hw).1 (hh w hw).2 (h.1 w hw)
    rwa [State.setVm_self] at h1
  · obtain ⟨sa, hs⟩ := h.2.2.1 q hq
    exact ⟨sa, vk_R.warm hW hs⟩
theorem Tw.thrB {s : State} {args : Array Value} (h : Tw s) {x : String} (hx : (x, x) ∈ twC) : ∀ w ∈ (Cond.castable x x :: twD.map Cond.declares), w.before args s = true := by
  intro w hw
  rcases List.mem_cons.mp hw with rfl | hw
  · exact va_Nw.use rfl (h.2.1 (x, x) hx)
  · obtain ⟨q, hq, rfl⟩ := List.mem_map.mp hw
    exact va_Nw.use rfl (h.2.2.2.2 q hq)
/-- what the machine knows: the classes of objects and arrays, and the travelling words -/
def tysA (y : Nat → ClassId) : List (ClassId × FieldType) := [(y 0, .int), (y 0, .int), (y 2, .object RX0), (y 3, .array .int)]
def Kb (G : va_G) (y : Nat → ClassId) (U : State) : Prop := va_K G vwCl (tysA y) U ∧ Tw U
theorem Kb.moved {G : va_G} {y : Nat → ClassId} {s U : State} (hW : s.WarmedH U.vm) (h : Kb G y s) : Kb G y U := ⟨va_K.moved hW.alike h.1, h.2.moved hW⟩
theorem Kb.nw {G : va_G} {y : Nat → ClassId} {s : State} (h : Kb G y s) {w : Cond} (hw : w ∈ twH) : va_Nw w s := h.2.1 w hw
/-- an answer, and nothing changed -/
def QcV (r : Value) : Array Value → State → Outcome → State → Prop := fun _ st o t => o = .returned (some r) ∧ t.heap = st.heap
/-- a read: its start -/
def rP (G : va_G) (y : Nat → ClassId) (av : List Value) (ws : va_W) : Array Value → State → Prop := va_Pc av (fun U => va_P G vwCl ws U.heap ∧ Kb G y U)
theorem rP_bl {G : va_G} {y : Nat → ClassId} {av : List Value} {ws : va_W} : FrameBlind (rP G y av ws) := fun _ U _ _ q => ⟨q.1, q.2.1, Kb.moved (State.WarmedH.refl U) q.2.2⟩
/-- a read of numbers alone -/
def nP (av : List Value) : Array Value → State → Prop := va_Pc av (fun _ => True)
theorem nP_bl {av : List Value} : FrameBlind (nP av) := fun _ _ _ _ q => q
/-- a write: its start, its end -/
def mP (G : va_G) (y : Nat → ClassId) (av : List Value) (ws : va_W) (sz : Nat) : Array Value → State → Prop := va_Pc av (fun U => U.heap.size = sz ∧ va_P G vwCl ws U.heap ∧ Kb G y U ∧ va_D (fun _ => True) ws)
theorem mP_bl {G : va_G} {y : Nat → ClassId} {av : List Value} {ws : va_W} {sz : Nat} : FrameBlind (mP G y av ws sz) := fun _ U _ _ q => ⟨q.1, q.2.1, q.2.2.1, Kb.moved (State.WarmedH.refl U) q.2.2.2.1, q.2.2.2.2⟩
def mQ {S : Type} (G : va_G) (rv : S → Option Value) (post : S → Prop) (ws' : S → va_W) (A : Nat → Prop) : Array Value → State → Outcome → State → Prop := fun _ st oc t => (∃ u : S, oc = .returned (rv u) ∧ post u ∧ va_P G vwCl (ws' u) t.heap ∧ va_D A (ws' u)) ∧ va_F A st t
/-- a write that may throw: the two statics that a throw reads, beside -/
def zU : String := "UNASSIGNED_STACK"
def zN : String := "SUPPRESSED_SENTINEL"
def Zs (A : Nat → Prop) (U : State) (H : Heap) : Prop := vx_Zq Bundle.tN zU Bundle.steD A U H ∧ vx_Zq Bundle.tN zN Bundle.listD A U H
theorem Zs.moved {A : Nat → Prop} {s U : State} {H : Heap} (hv : s.vm.Alike U.vm) (h : Zs A s H) : Zs A U H := ⟨h.1.moved hv, h.2.moved hv⟩
theorem Zs.kept {A : Nat → Prop} {U : State} {H H1 : Heap} (h : Zs A U H) (hq : ∀ a : Nat, a < H.size → ¬ A a → H1[a]? = H[a]?) : Zs A U H1 := ⟨h.1.kept hq, h.2.kept hq⟩
theorem Zs.narrow {A B : Nat → Prop} {U : State} {H : Heap} (h : Zs A U H) (hAB : ∀ q, B q → A q) : Zs B U H := ⟨h.1.narrow hAB, h.2.narrow hAB⟩
def xP (G : va_G) (y : Nat → ClassId) (av : List Value) (ws : va_W) (sz : Nat) : Array Value → State → Prop := va_Pc av (fun U => U.heap.size = sz ∧ va_P G vwCl ws U.heap ∧ Kb G y U ∧ va_D (fun _ => True) ws ∧ Zs (va_A ws sz) U U.heap)
theorem xP_bl {G : va_G} {y : Nat → ClassId} {av : List Value} {ws : va_W} {sz : Nat} : FrameBlind (xP G y av ws sz) := fun _ U _ _ q => ⟨q.1, q.2.1, q.2.2.1, Kb.moved (State.WarmedH.refl U) q.2.2.2.1, q.2.2.2.2.1, Zs.moved (Vm.Alike.refl U.vm) q.2.2.2.2.2⟩
/-- thrown: the class by the code, the world as it was -/
def exN (k : Nat) : String := if k = 1 then "java/lang/IndexOutOfBoundsException" else if k = 2 then "java/lang/IllegalArgumentException" else "java/lang/IllegalStateException"
def xX (G : va_G) (pe : String → Prop) (ws : va_W) (A : Nat → Prop) : String → State → State → Prop := vx_X (fun _ : Unit => True) (fun E _ t => pe E ∧ va_P G vwCl ws t.heap ∧ va_D A ws) A
section BR
variable {p : Program} {l : Launch} {e : Env} {R : Room} {s : State} {m : MethodId} {args : Array Value} {below : List Frame} {meth : Method} {c : Code} {H : Heap} {locs : List Loc} {cells slots : Nat} {Q : State → Prop}
variable {cc : ByteArray} {pc : Nat} {ls : Array Slot} {rest st0 : List Value} {G : va_G} {y : Nat → ClassId} {A A0 A1 : Nat → Prop} {H0 : Heap} {a : Nat → Nat} {mc ms : Nat} {free : Addr → Prop} {ag : Array Value}
theorem lv_topE {x z : Int32} (h : x = z) (k : W p l e R s m args below meth c H locs cells slots Q (F0 m pc ls (.int z :: rest))) : W p l e R s m args below meth c H locs cells slots Q (F0 m pc ls (.int x :: rest)) := h ▸ k
theorem lv_topEl {x z : Int64} (h : x = z) (k : W p l e R s m args below meth c H locs cells slots Q (F0 m pc ls (.long z :: rest))) : W p l e R s m args below meth c H locs cells slots Q (F0 m pc ls (.long x :: rest)) := h ▸ k
theorem caR {r : Value} (hr : va_Run p l e R s m args below meth c H locs cells slots 0 0 (F0 m pc ls st0) rest (QcV r ag) (fun _ => False)) (kk : W p l e R s m args below meth c H locs cells slots Q (F0 m (pc + 3) ls (r :: rest))) : W p l e R s m args below meth c H locs cells slots Q (F0 m pc ls st0) := by
  intro T hT X
  obtain ⟨v, st₀, t, T', L, h0, X', hL, e1, -, ⟨hv, hh⟩, st⟩ := hr T hT X
  cases hv
  obtain ⟨t2, a1, b1⟩ := kk T' (by rw [e1, hh, h0]) (Stand.forget X' (fun q h => (hL q h).elim))
  exact ⟨t2, st t2 a1, b1⟩
theorem caM {S : Type} {rv : S → Option Value} {post : S → Prop} {ws' : S → va_W} (hr : va_Run p l e R s m args below meth c H locs cells slots mc ms (F0 m pc ls st0) rest (mQ G rv post ws' A1 ag) free) (hS : va_S A0 H0 H locs) (hA : ∀ q, A1 q → A0 q) (hf : ∀ q, free q → A0 q)
    (kk : ∀ (u : S) (H1 : Heap) (locs1 : List Loc), post u → va_P G vwCl (ws' u) H1 → va_D A0 (ws' u) → H.size ≤ H1.size → (∀ q : Nat, q < H.size → ¬ A1 q → H1[q]? = H[q]?) → va_S A0 H0 H1 locs1 → W p l e R s m args below meth c H1 locs1 (cells + mc) (slots + ms) Q (F0 m (pc + 3) ls ((rv u).toList ++ rest))) : W p l e R s m args below meth c H locs cells slots Q (F0 m pc ls st0) := by
  intro T hT X
  obtain ⟨v, st₀, t, T', L, h0, X', hL, e1, e2, ⟨⟨u, hv, hp, hb, hd⟩, hz, hk⟩, st⟩ := hr T hT X
  cases hv
  rw [h0] at hz hk
  obtain ⟨t2, a1, b1⟩ := kk u T'.heap (locs ++ L) hp (by rw [e1]; exact hb) (hd.weaken (fun _ _ _ h => hA _ h)) (by rw [e1]; exact hz) (fun q h1 h2 => by rw [e1]; exact hk q h1 h2)
    ⟨Nat.le_trans hS.1 (by rw [e1]; exact hz), fun q h1 h2 => by rw [e1, hk q (Nat.lt_of_lt_of_le h1 hS.1) (fun z => h2 (hA q z))]; exact hS.2.1 q h1 h2, fun q hq => by
      rcases List.mem_append.mp hq with h | h
      · exact hS.2.2 q h
      · exact hf _ (hL q h)⟩ T' rfl X'
  exact ⟨t2, st t2 a1, b1⟩
theorem caX {S : Type} {rv : S → Option Value} {post : S → Prop} {ws' : S → va_W} {pe : String → Prop} {wx : va_W} (hr : vx_Run p l e R s m args below meth c H locs cells slots mc ms (F0 m pc ls st0) rest (mQ G rv post ws' A1 ag) (xX G pe wx A1) free) (hS : va_S A0 H0 H locs) (hA : ∀ q, A1 q → A0 q) (hf : ∀ q, free q → A0 q)
    (kx : ∀ (E : String) (ce : Cell) (q9 : Addr) (H1 : Heap) (locs1 : List Loc), pe E → va_P G vwCl wx H1 → va_D A0 wx → H.size ≤ H1.size → (∀ q : Nat, q < H.size → ¬ A1 q → H1[q]? = H[q]?) → va_S A0 H0 H1 locs1 → H1[q9]? = some ce → ce.vm = .none → s.vm.findClass E = some ce.cls → vx_W p l e R s m args below meth c H1 locs1 (cells + mc) (slots + ms) Q (F0 m pc ls rest) q9)
    (kk : ∀ (u : S) (H1 : Heap) (locs1 : List Loc), post u → va_P G vwCl (ws' u) H1 → va_D A0 (ws' u) → H.size ≤ H1.size → (∀ q : Nat, q < H.size → ¬ A1 q → H1[q]? = H[q]?) → va_S A0 H0 H1 locs1 → W p l e R s m args below meth c H1 locs1 (cells + mc) (slots + ms) Q (F0 m (pc + 3) ls ((rv u).toList ++ rest))) : W p l e R s m args below meth c H locs cells slots Q (F0 m pc ls st0) := by
  intro T hT X
  rcases hr T hT X with ⟨v, st₀, t, T', L, h0, X', hL, e1, e2, ⟨⟨u, hv, hp, hb, hd⟩, hF⟩, st⟩ | ⟨q, st₀, t, T', L, E, ce, h0, X', hL, e1, e2, ⟨u, -, ⟨hp, hb, hd⟩, hF⟩, hce, hcv, hcl, st⟩
  · cases hv
    obtain ⟨k1, k2, k3⟩ := vx_keep h0 e1 hS (fun q _ h => hA q h) hf hL hF
    obtain ⟨t2, a1, b1⟩ := kk u T'.heap (locs ++ L) hp (by rw [e1]; exact hb) (hd.weaken (fun _ _ _ h => hA _ h)) k1 k2 k3 T' rfl X'
    exact ⟨t2, st t2 a1, b1⟩
  · obtain ⟨k1, k2, k3⟩ := vx_keep h0 e1 hS (fun q _ h => hA q h) hf hL hF
    obtain ⟨t2, a1, b1⟩ := kx E ce q T'.heap (locs ++ L) hp (by rw [e1]; exact hb) (hd.weaken (fun _ _ _ h => hA _ h)) k1 k2 k3 (by rw [e1]; exact hce) hcv hcl T' rfl X'
    exact ⟨t2, st.trans a1, b1⟩
/-- an int row: read and written at the place k -/
theorem ldI {ws : va_W} {ad len : Nat} {f : Nat → Int32} {x : Int32} (hexec : p.tables.exec = Jvm.exec) (hb : c.code = cc) (hK : Kb G y s) (hP : va_P G vwCl ws H) (q0 : Nat) (he : ws[q0]? = some (ad, .inl (y 0, len, .inl f))) (k : Nat) (hx : x = nI k) (hk : k < len) (h31 : len < 2 ^ 31) (hdg : decode cc pc = .ok (.iaload, 1))
    (kk : W p l e R s m args below meth c H locs cells slots Q (F0 m (pc + 1) ls (.int (f k) :: rest))) : W p l e R s m args below meth c H locs cells slots Q (F0 m pc ls (.int x :: .ref ad :: rest)) := by
  subst hx
  exact va_iald hexec hb hK.1 hP q0 0 he rfl (vp_in_nI hk h31) hdg (by rw [nI_clamp (Nat.lt_trans hk h31)]; exact kk)
theorem ldQ {ws : va_W} {ad len : Nat} {f : Nat → Option Nat} {x : Int32} (hexec : p.tables.exec = Jvm.exec) (hb : c.code = cc) (hK : Kb G y s) (hP : va_P G vwCl ws H) (q0 : Nat) (he : ws[q0]? = some (ad, .inl (y 2, len, .inr (.inr (.inr (.inr f)))))) (k : Nat) (hx : x = nI k) (hk : k < len) (h31 : len < 2 ^ 31) (hdg : decode cc pc = .ok (.aaload, 1))
    (kk : W p l e R s m args below meth c H locs cells slots Q (F0 m (pc + 1) ls (va_rf (f k) :: rest))) : W p l e R s m args below meth c H locs cells slots Q (F0 m pc ls (.int x :: .ref ad :: rest)) := by
  subst hx
  exact va_aldq hexec hb hK.1 hP q0 2 he rfl (vp_in_nI hk h31) hdg (by rw [nI_clamp (Nat.lt_trans hk h31)]; exact kk)
theorem ldA {ws : va_W} {ad len : Nat} {f : Nat → Option Nat} {x : Int32} (hexec : p.tables.exec = Jvm.exec) (hb : c.code = cc) (hK : Kb G y s) (hP : va_P G vwCl ws H) (q0 : Nat) (he : ws[q0]? = some (ad, .inl (y 3, len, .inr (.inr (.inr (.inr f)))))) (k : Nat) (hx : x = nI k) (hk : k < len) (h31 : len < 2 ^ 31) (hdg : decode cc pc = .ok (.aaload, 1))
    (kk : W p l e R s m args below meth c H locs cells slots Q (F0 m (pc + 1) ls (va_rf (f k) :: rest))) : W p l e R s m args below meth c H locs cells slots Q (F0 m pc ls (.int x :: .ref ad :: rest)) := by
  subst hx
  have hin := vp_in_nI hk h31
  have hlt : (nI k).toNatClampNeg < len := Nat.not_le.mp fun q => hin (Or.inr q)
  refine W.aald (v := va_rf (f (nI k).toNatClampNeg)) (ty := .array .int) hexec hb (hP q0 _ he) ((hK.1.2 3 _ rfl).1 len (fun j => va_rf (f j))) rfl (fun q => by cases q) (by show ¬ (nI k < 0 ∨ (arrV _ _ _).slots.size ≤ _); rw [arrV_size]; exact hin) (by show (arrV _ _ _).slots[_]? = _; rw [arrV_read _ _ hlt]) rfl rfl hdg ?_
  rw [nI_clamp (Nat.lt_trans hk h31)]
  exact kk
theorem stI {ws ws1 : va_W} {ad len : Nat} {f : Nat → Int32} {x z : Int32} (hexec : p.tables.exec = Jvm.exec) (hb : c.code = cc) (hK : Kb G y s) (hP : va_P G vwCl ws H) (hD : va_D A ws) (hS : va_S A H0 H locs) (q0 : Nat) (he : ws[q0]? = some (ad, .inl (y 0, len, .inl f))) (k : Nat) (hx : x = nI k) (hk : k < len) (h31 : len < 2 ^ 31) (hw : ws.set q0 (ad, .inl (y 0, len, .inl (upd f k z))) = ws1) (hdg : decode cc pc = .ok (.iastore, 1))
    (kk : ∀ (H1 : Heap) (locs1 : List Loc), va_P G vwCl ws1 H1 → va_D A ws1 → va_S A H0 H1 locs1 → W p l e R s m args below meth c H1 locs1 cells slots Q (F0 m (pc + 1) ls rest)) : W p l e R s m args below meth c H locs cells slots Q (F0 m pc ls (.int z :: .int x :: .ref ad :: rest)) := by
  subst hx
  subst hw
  exact va_iast hexec hb hK.1 hP hD hS q0 0 he rfl (vp_in_nI hk h31) hdg (by rw [nI_clamp (Nat.lt_trans hk h31)]; exact kk)
/-- the book's fields -/
theorem bkG {Ts : List Cond} {index : Nat} {b : Nat → Nat → Int32} {n : Nat} {la : Nat → Nat → Nat} {L : Nat → Nat → Nat → Int32} {val : Value} (hexec : p.tables.exec = Jvm.exec) (hb : c.code = cc) (hts : ∀ w ∈ Ts, w.before args s = true) (hin : ∀ w ∈ u_ws RX2 TX2 13, w ∈ Ts) (hown : s.vm.findClass RX2 = some m.cls) (hK : Kb G y s) (hP : va_P G vwCl (bkW y a b n la L) H) (k : Nat) (hk : k < 13) (hlink : (Cond.fieldLink RX2 index (TX2 k).1 (TX2 k).2.1 (TX2 k).2.2.1).before args s = true) (hv : (bkF a b)[k]? = some val) (hdg : decode cc pc = .ok (.getfield index, 3))
    (kk : W p l e R s m args below meth c H locs cells slots Q (F0 m (pc + 3) ls (val :: rest))) : W p l e R s m args below meth c H locs cells slots Q (F0 m pc ls (.ref (a 13) :: rest)) :=
  va_get (ci := 2) (C := RX2) (T := TX2) (N := 13) hexec hb hts hin hown hK.1 hP 0 rfl rfl k hk hlink (fun _ h9 => h9) hv hdg kk
theorem bkS {Ts : List Cond} {index : Nat} {b : Nat → Nat → Int32} {n : Nat} {la : Nat → Nat → Nat} {L : Nat → Nat → Nat → Int32} {x : Int32} (hexec : p.tables.exec = Jvm.exec) (hb : c.code = cc) (hts : ∀ w ∈ Ts, w.before args s = true) (hin : ∀ w ∈ u_ws RX2 TX2 13, w ∈ Ts) (hown : s.vm.findClass RX2 = some m.cls) (hK : Kb G y s) (hP : va_P G vwCl (bkW y a b n la L) H) (hD : va_D A (bkW y a b n la L)) (hS : va_S A H0 H locs) (k : Nat) (hk : k = 1 ∨ k = 2 ∨ k = 3 ∨ k = 4 ∨ k = 6) (hlink : (Cond.fieldLink RX2 index (TX2 k).1 (TX2 k).2.1 (TX2 k).2.2.1).before args s = true) (hdg : decode cc pc = .ok (.putfield index, 3))
    (kk : ∀ (H1 : Heap) (locs1 : List Loc), va_P G vwCl (bkW y a (u2 b 13 k x) n la L) H1 → va_D A (bkW y a (u2 b 13 k x) n la L) → va_S A H0 H1 locs1 → W p l e R s m args below meth c H1 locs1 cells slots Q (F0 m (pc + 3) ls rest)) : W p l e R s m args below meth c H locs cells slots Q (F0 m pc ls (.int x :: .ref (a 13) :: rest)) := by
  refine va_put (ci := 2) (C := RX2) (T := TX2) (N := 13) (v := .int x) (ty := .int) hexec hb hts hin tyX2 tyX2_ok nmX2 hown hK.1 hP hD hS 0 rfl rfl k (by omega) hlink (fun _ h9 => h9) (by rcases hk with rfl | rfl | rfl | rfl | rfl <;> rfl) (by rcases hk with rfl | rfl | rfl | rfl | rfl <;> decide +kernel) rfl rfl (by show k < 13; omega) hdg (fun H1 locs1 h1 h2 h3 => ?_)
  have he : (bkW y a b n la L).set 0 (a 13, .inr (2, (bkF a b).set k (.int x))) = bkW y a (u2 b 13 k x) n la L := by rcases hk with rfl | rfl | rfl | rfl | rfl <;> rfl
  rw [he] at h1 h2
  exact kk H1 locs1 h1 h2 h3
end BR
end
section
/-! ===== base, second part (mine): loops, numbers, sums ===== -/
abbrev cn (x : Int32) : Nat := x.toNatClampNeg
theorem cl_nI {t : Int32} (h : ¬ t < 0) : t = nI (cn t) := by
  obtain ⟨j, hj, rfl⟩ := nI_of h
  rw [show cn (nI j) = j from nI_clamp hj]
theorem cl_le {t : Int32} {M : Nat} (h0 : ¬ t < 0) (h : ¬ nI M < t) (hM : M < 2 ^ 31) : cn t ≤ M := by
  obtain ⟨j, hj, rfl⟩ := nI_of h0
  rw [show cn (nI j) = j from nI_clamp hj]
  exact Nat.not_lt.mp (fun q => h ((nI_ltI hM hj).mpr q))
theorem cl_lt {t : Int32} {M : Nat} (h0 : ¬ t < 0) (h : ¬ nI M ≤ t) (hM : M < 2 ^ 31) : cn t < M := by
  obtain ⟨j, hj, rfl⟩ := nI_of h0
  rw [show cn (nI j) = j from nI_clamp hj]
  exact Nat.not_le.mp (fun q => h ((nI_leI hM hj).mpr q))
theorem lt_1_0 {t : Int32} (h : ¬ t < 1) : ¬ t < 0 := fun q => h (by
  rw [Int32.lt_iff_toInt_lt] at q ⊢
  exact Int.lt_trans q (by decide))
def S32 (f : Nat → Int32) : Nat → Int32
  | 0 => 0
  | n + 1 => S32 f n + f n
def S64 (f : Nat → Int64) : Nat → Int64
  | 0 => 0
  | n + 1 => S64 f n + f n
def D32 (x : Int32) (f : Nat → Int32) : Nat → Int32
  | 0 => x
  | n + 1 => D32 x f n - f n
theorem S32_congr {f g : Nat → Int32} : ∀ {n : Nat}, (∀ k, k < n → f k = g k) → S32 f n = S32 g n
  | 0, _ => rfl
  | n + 1, h => by rw [S32, S32, S32_congr (fun k hk => h k (by omega)), h n (by omega)]
theorem S64_congr {f g : Nat → Int64} : ∀ {n : Nat}, (∀ k, k < n → f k = g k) → S64 f n = S64 g n
  | 0, _ => rfl
  | n + 1, h => by rw [S64, S64, S64_congr (fun k hk => h k (by omega)), h n (by omega)]
theorem D32_congr {x : Int32} {f g : Nat → Int32} : ∀ {n : Nat}, (∀ k, k < n → f k = g k) → D32 x f n = D32 x g n
  | 0, _ => rfl
  | n + 1, h => by rw [D32, D32, D32_congr (fun k hk => h k (by omega)), h n (by omega)]
theorem freeW {A : Nat → Prop} {ws : va_W} {H0 H : Heap} {locs : List Loc} (hD : va_D A ws) (hS : va_S A H0 H locs) (hA : ∀ q, H0.size ≤ q → A q) : ∀ q, va_A ws H.size q → A q := by
  intro q h
  rcases h with ⟨k, e, h⟩ | h
  · exact hD.2 k (q, e) h
  · exact hA q (Nat.le_trans hS.1 h)
section LOOPS
variable {p : Program} {l : Launch} {e : Env} {R : Room} {s : State} {m : MethodId} {args : Array Value} {below : List Frame} {meth : Method} {c : Code} {H : Heap} {locs : List Loc} {cells slots : Nat} {Q : State → Prop} {head nL : Nat} {ls : Array Slot} {G : va_G} {A : Nat → Prop} {H0 : Heap} {st : List Value}
/-- a loop that leaves the heap as it is -/
theorem loopW (LV : Nat → List (Nat × Value)) (b : Nat) (h0 : lv_has ls nL (LV 0)) (step : ∀ (k : Nat) (ls : Array Slot), k < b → lv_has ls nL (LV k) → (∀ ls' : Array Slot, lv_has ls' nL (LV (k + 1)) → W p l e R s m args below meth c H locs cells slots Q (F0 m head ls' st)) → W p l e R s m args below meth c H locs cells slots Q (F0 m head ls st)) (done : ∀ ls : Array Slot, lv_has ls nL (LV b) → W p l e R s m args below meth c H locs cells slots Q (F0 m head ls st)) : W p l e R s m args below meth c H locs cells slots Q (F0 m head ls st) := by
  have key : ∀ (n k : Nat), k + n = b → ∀ ls : Array Slot, lv_has ls nL (LV k) → W p l e R s m args below meth c H locs cells slots Q (F0 m head ls st) := by
    intro n
    induction n with
    | zero =>
      intro k hk ls hl
      have hk : k = b := by omega
      subst hk
      exact done ls hl
    | succ n ih =>
      intro k hk ls hl
      exact step k ls (by omega) hl (fun ls' hl' => ih (k + 1) (by omega) ls' hl')
  exact key b 0 (Nat.zero_add b) ls h0
/-- a loop from k0 on -/
theorem loopF (LV : Nat → List (Nat × Value)) (k0 b : Nat) (hkb : k0 ≤ b) (h0 : lv_has ls nL (LV k0)) (step : ∀ (k : Nat) (ls : Array Slot), k0 ≤ k → k < b → lv_has ls nL (LV k) → (∀ ls' : Array Slot, lv_has ls' nL (LV (k + 1)) → W p l e R s m args below meth c H locs cells slots Q (F0 m head ls' st)) → W p l e R s m args below meth c H locs cells slots Q (F0 m head ls st)) (done : ∀ ls : Array Slot, lv_has ls nL (LV b) → W p l e R s m args below meth c H locs cells slots Q (F0 m head ls st)) : W p l e R s m args below meth c H locs cells slots Q (F0 m head ls st) := by
  have key : ∀ (n k : Nat), k0 ≤ k → k + n = b → ∀ ls : Array Slot, lv_has ls nL (LV k) → W p l e R s m args below meth c H locs cells slots Q (F0 m head ls st) := by
    intro n
    induction n with
    | zero =>
      intro k hk0 hk ls hl
      have hk : k = b := by omega
      subst hk
      exact done ls hl
    | succ n ih =>
      intro k hk0 hk ls hl
      exact step k ls hk0 (by omega) hl (fun ls' hl' => ih (k + 1) (by omega) (by omega) ls' hl')
  exact key (b - k0) k0 (Nat.le_refl _) (by omega) ls h0
/-- a loop that writes -/
theorem loopM (LV : Nat → List (Nat × Value)) (WS : Nat → va_W) (b : Nat) (hP : va_P G vwCl (WS 0) H) (hD : va_D A (WS 0)) (hS : va_S A H0 H locs) (h0 : lv_has ls nL (LV 0))
    (step : ∀ (k : Nat) (H : Heap) (locs : List Loc) (ls : Array Slot), k < b → va_P G vwCl (WS k) H → va_D A (WS k) → va_S A H0 H locs → lv_has ls nL (LV k) → (∀ (H' : Heap) (locs' : List Loc) (ls' : Array Slot), va_P G vwCl (WS (k + 1)) H' → va_D A (WS (k + 1)) → va_S A H0 H' locs' → lv_has ls' nL (LV (k + 1)) → W p l e R s m args below meth c H' locs' cells slots Q (F0 m head ls' st)) → W p l e R s m args below meth c H locs cells slots Q (F0 m head ls st))
    (done : ∀ (H : Heap) (locs : List Loc) (ls : Array Slot), va_P G vwCl (WS b) H → va_D A (WS b) → va_S A H0 H locs → lv_has ls nL (LV b) → W p l e R s m args below meth c H locs cells slots Q (F0 m head ls st)) : W p l e R s m args below meth c H locs cells slots Q (F0 m head ls st) := by
  have key : ∀ (n k : Nat), k + n = b → ∀ (H : Heap) (locs : List Loc) (ls : Array Slot), va_P G vwCl (WS k) H → va_D A (WS k) → va_S A H0 H locs → lv_has ls nL (LV k) → W p l e R s m args below meth c H locs cells slots Q (F0 m head ls st) := by
    intro n
    induction n with
    | zero =>
      intro k hk H locs ls hP hD hS hl
      have hk : k = b := by omega
      subst hk
      exact done H locs ls hP hD hS hl
    | succ n ih =>
      intro k hk H locs ls hP hD hS hl
      exact step k H locs ls (by omega) hP hD hS hl (fun H' locs' ls' h1 h2 h3 h4 => ih (k + 1) (by omega) H' locs' ls' h1 h2 h3 h4)
  exact key b 0 (Nat.zero_add b) H locs ls hP hD hS h0
end LOOPS
end
section
/-! ===== numbers (mine) ===== -/
def mIn (v lo hi : Int32) : Int32 := if v < lo then 0 else if hi < v then 0 else 1
theorem mIn_T {v lo hi : Int32} (h : ¬ mIn v lo hi = 0) : ¬ v < lo ∧ ¬ hi < v := by
  unfold mIn at h
  by_cases h1 : v < lo
  · rw [if_pos h1] at h; exact absurd rfl h
  · by_cases h2 : hi < v
    · rw [if_neg h1, if_pos h2] at h; exact absurd rfl h
    · exact ⟨h1, h2⟩
theorem mIn_01 {v lo hi : Int32} : mIn v lo hi = 0 ∨ mIn v lo hi = 1 := by
  unfold mIn
  split
  · exact Or.inl rfl
  · split
    · exact Or.inl rfl
    · exact Or.inr rfl
theorem mIn_nar {v lo hi : Int32} : narrow .boolean (.int (mIn v lo hi)) = .int (mIn v lo hi) := by
  rcases mIn_01 (v := v) (lo := lo) (hi := hi) with h | h <;> rw [h] <;> rfl
abbrev MS : Type := Nat → Nat → Int32
def d12 (x : Int64) : Int32 := (x / 120000).toInt32
theorem iinc1 {k : Nat} : nI k + Int32.ofInt 1 = nI (k + 1) := (nI_succ k).symm
theorem iinc7 {k : Nat} : nI k + Int32.ofInt 7 = nI (k + 7) := by
  rw [show Int32.ofInt 7 = nI 7 from rfl, nI_add]
theorem ix6 {i k : Nat} : (6 : Int32) * nI i + nI k = nI (6 * i + k) := by rw [show (6 : Int32) = nI 6 from rfl, pk_mul, nI_add]
theorem ix3 {i k : Nat} : (3 : Int32) * nI i + nI k = nI (3 * i + k) := by rw [show (3 : Int32) = nI 3 from rfl, pk_mul, nI_add]
theorem lcmp_eq {x y : Int64} (h : lg_cmp x y = 0) : x = y := by
  unfold lg_cmp at h
  split at h
  · cases h
  · split at h
    · assumption
    · cases h
theorem lcmp_ne {x y : Int64} (h : ¬ lg_cmp x y = 0) : ¬ x = y := fun e => h (by
  subst e
  simp [lg_cmp])
theorem cnI {i : Nat} (h : i < 2 ^ 31) : cn (nI i) = i := nI_clamp h
theorem n6lt {q : Nat} (h : ¬ (6 : Int32) ≤ nI q) (h2 : q < 2 ^ 31) : q < 6 := by
  rcases Nat.lt_or_ge q 6 with h1 | h1
  · exact h1
  · exact absurd (nI_le h1 h2) h
/-- an index that 'in' has let through -/
theorem inN {x : Int32} {M : Nat} (h : ¬ mIn x 0 (nI M) = 0) (hM : M < 2 ^ 31) : ∃ i, i ≤ M ∧ x = nI i :=
  ⟨cn x, cl_le (mIn_T h).1 (mIn_T h).2 hM, cl_nI (mIn_T h).1⟩
theorem in1N {x : Int32} {M : Nat} (h : ¬ mIn x 1 (nI M) = 0) (hM : M < 2 ^ 31) : ∃ i, i ≤ M ∧ 1 ≤ i ∧ x = nI i := by
  obtain ⟨h1, h2⟩ := mIn_T h
  have h0 := lt_1_0 h1
  refine ⟨cn x, cl_le h0 h2 hM, ?_, cl_nI h0⟩
  rcases Nat.eq_zero_or_pos (cn x) with q | q
  · have e := cl_nI h0
    rw [q] at e
    rw [e] at h1
    exact absurd (by decide) h1
  · exact q
theorem inL {x : Int32} {n : Nat} (h : ¬ mIn x 0 (nI n - 1) = 0) (hn : n < 2 ^ 31) : ∃ i, i < n ∧ x = nI i := by
  cases n with
  | zero =>
    obtain ⟨h1, h2⟩ := mIn_T h
    obtain ⟨j, hj, rfl⟩ := nI_of h1
    exfalso
    refine h2 ?_
    rw [Int32.lt_iff_toInt_lt, nI_toInt hj]
    have : (nI 0 - 1).toInt = -1 := by decide
    omega
  | succ k =>
    rw [nI_pred] at h
    obtain ⟨i, hi, e⟩ := inN h (by omega)
    exact ⟨i, by omega, e⟩
theorem S32_s {f : Nat → Int32} {k : Nat} : S32 f k + f k = S32 f (k + 1) := rfl
theorem D32_s {x : Int32} {f : Nat → Int32} {k : Nat} : D32 x f k - f k = D32 x f (k + 1) := rfl
end
section
/-! ===== the book's functions, in words of its rows (mine) ===== -/
abbrev LNS : Type := Nat → Nat → Nat → Int32
def lPt (w : MS) (p : Nat) : Nat → Int32 := fun k => if k < p then 0 else w 1 k
def lUnp (w : MS) (p : Nat) : Int32 := S32 (lPt w p) 6
def lFd (w : MS) (p : Nat) : Nat → Int64 := fun k => if k < p then 0 else (w 1 k).toInt64 * (w 2 k).toInt64
def lCust (w : MS) (p : Nat) : Int32 := d12 ((lUnp w p).toInt64 * (w 0 2).toInt64)
def lFund (w : MS) (p : Nat) : Int32 := d12 (S64 (lFd w p) 6)
def lOpt (w : MS) (p : Nat) : Int32 := d12 ((lUnp w p).toInt64 * (w 0 4).toInt64)
def lOwn (w : MS) (p : Nat) : Int32 := lCust w p - lFund w p - lOpt w p
def lAh (w : MS) (p x : Nat) : Int32 := if p + x < 6 then w 1 (p + x) else 0
def bCo (b : MS) (x : Int64) : Int32 := (x * (b 13 3).toInt64 / 100).toInt32
def bTA (b : MS) : Int32 := bCo b (S64 (fun j => (b 7 j).toInt64) 3) / 6
def bAl (b : MS) : Nat → Int64 := fun k => (b 14 k).toInt64
def bWt (b : MS) : Nat → Int64 := fun k => (b 14 k).toInt64 * (b 15 k).toInt64
def bAvg (b : MS) : Int32 := if lg_cmp (S64 (bAl b) 6) 0 ≤ 0 then 0 else (S64 (bWt b) 6 / S64 (bAl b) 6).toInt32
def bPd (b : MS) (x r : Int32) : Int32 := d12 ((bCo b x.toInt64).toInt64 * r.toInt64 + (x - bCo b x.toInt64).toInt64 * (b 0 0).toInt64)
def bEn (t : Nat) (x : Int32) : Int32 := if x < 0 then 0 else if nI t ≤ x then 0 else 1
def bFind (n : Nat) (la : Nat → Nat → Nat) (x : Int32) : Option Nat := if x < 0 then none else if x < 24 then lrF n la (cn x) else none
/-- a sum over the loans that there are -/
def bSm (n : Nat) (F : Nat → Int32) : Nat → Int32 := fun k => if k < n then F k else 0
/-- the margins of the loans whose field f is q -/
def bLm (L : LNS) (pd : Nat → Nat) (f : Nat) (q : Int32) : Nat → Int32 := fun k => if L k 0 f = q then lOwn (L k) (pd k) else 0
def bLM (n : Nat) (L : LNS) (pd : Nat → Nat) (f : Nat) (q : Int32) : Int32 := S32 (bSm n (bLm L pd f q)) 24
def bLay (b : MS) (k : Nat) (am rt : Int32) : MS := u2 (u2 b 14 k am) 15 k rt
def bLA (b : MS) (am rt : Int32) : Nat → MS
  | 0 => b
  | k + 1 => bLay (bLA b am rt k) k am rt
def bPP (L : LNS) (i p : Nat) : LNS := if p < 6 then u3 L i (nI (p + 1)) else L
def bPA (L : LNS) (n : Nat) (pd : Nat → Nat) : Nat → LNS
  | 0 => L
  | k + 1 => if k < n then bPP (bPA L n pd k) k (pd k) else bPA L n pd k
def bR1 (b : MS) (t n : Nat) (L : LNS) (pd : Nat → Nat) : Nat → MS
  | 0 => b
  | k + 1 => u2 (bR1 b t n L pd k) (16 + k) t (bLM n L pd 0 (nI k))
def bR2 (b : MS) (t n : Nat) (L : LNS) (pd : Nat → Nat) : Nat → MS
  | 0 => b
  | k + 1 => u2 (bR2 b t n L pd k) (19 + k) t (bLM n L pd 1 (nI k))
def bTr (L : LNS) (pd : Nat → Nat) : Nat → Int32 := fun k => lFund (L k) (pd k) + lOpt (L k) (pd k)
def bCu (L : LNS) (pd : Nat → Nat) : Nat → Int32 := fun k => lCust (L k) (pd k)
def bR3 (b : MS) (t n : Nat) (L : LNS) (pd : Nat → Nat) : MS := u2 (u2 (bR2 (bR1 b t n L pd 3) t n L pd 3) 11 t (S32 (bSm n (bTr L pd)) 24)) 12 t (S32 (bSm n (bCu L pd)) 24)
def bFT (b : MS) (k : Nat) : Int32 := bPd b (b 7 k) (bAvg b)
def bTC (b : MS) (k : Nat) : Int32 := d12 ((b 7 k).toInt64 * (b 13 1).toInt64)
def bD1 (b : MS) (t : Nat) : Nat → MS
  | 0 => b
  | k + 1 => u2 (u2 (u2 (bD1 b t k) (16 + k) t (bD1 b t k (16 + k) t + (bFT b k - bTC b k))) 11 t (bD1 b t k 11 t - bFT b k)) 12 t (bD1 b t k 12 t - bTC b k)
def bCl (b : MS) (t n : Nat) (L : LNS) (pd : Nat → Nat) : MS := u2 (bD1 (bR3 b t n L pd) t 3) 13 4 (nI (t + 1))
def bClose (b : MS) (t n : Nat) (L : LNS) (pd : Nat → Nat) : MS := bLay (bCl b t n L pd) ((t + 1) % 6) (bTA (bCl b t n L pd)) (bCl b t n L pd 0 5)
/-- codes: 0 where nothing is thrown, else the class by exN -/
def xSetCurve (x r : Int32) : Nat := if x < 1 then 1 else if 6 < x then 1 else if r < 0 then 2 else if 5000 < r then 2 else 0
def xSetRates (d o c : Int32) : Nat := if d < 0 then 2 else if 5000 < d then 2 else if o < 0 then 2 else if 5000 < o then 2 else if c < 0 then 2 else if 100 < c then 2 else 0
def bSetRates (b : MS) (d o c : Int32) : MS := u2 (u2 (u2 b 13 1 d) 13 2 o) 13 3 c
def xLend (n : Nat) (br pr am rt mo : Int32) : Nat := if br < 0 then 1 else if 3 ≤ br then 1 else if pr < 0 then 1 else if 3 ≤ pr then 1 else if am < 1 then 2 else if 10000000 < am then 2 else if rt < 0 then 2 else if 5000 < rt then 2 else if mo < 1 then 2 else if 6 < mo then 2 else if 24 ≤ nI n then 3 else 0
def xRepay (n : Nat) (L : LNS) (pd : Nat → Nat) (x : Int32) : Nat := if mIn x 0 (nI n - 1) = 0 then 1 else if L (cn x) 0 3 = 0 then 3 else if lUnp (L (cn x)) (pd (cn x)) = 0 then 3 else 0
def xDep (b : MS) (x ch : Int32) : Nat := if x < 0 then 1 else if 3 ≤ x then 1 else if ch < -10000000 then 2 else if 10000000 < ch then 2 else if b 7 (cn x) + ch < 0 then 3 else if 10000000 < b 7 (cn x) + ch then 3 else 0
def bDep (b : MS) (i : Nat) (ch : Int32) : MS := if b 13 4 = 0 ∧ ¬ ch = 0 then bLA (u2 b 7 i (b 7 i + ch)) (bTA (u2 b 7 i (b 7 i + ch))) (b 0 5) 6 else u2 b 7 i (b 7 i + ch)
def xBears (n : Nat) (x w : Int32) : Nat := if mIn x 0 (nI n - 1) = 0 then 1 else if mIn w 0 3 = 0 then 2 else 0
def bBear (w : MS) (p : Nat) (x : Int32) : Int32 := if x = 0 then lCust w p else if x = 1 then lFund w p else if x = 2 then lOpt w p else lOwn w p
def xDue (x : Int32) : Nat := if x < 0 then 2 else if 6 ≤ x then 2 else 0
def bDu (L : LNS) (pd : Nat → Nat) (x : Nat) : Nat → Int32 := fun k => lAh (L k) (pd k) x
def x3 (x : Int32) : Nat := if x < 0 then 1 else if 3 ≤ x then 1 else 0
def x6 (x : Int32) : Nat := if x < 0 then 1 else if 6 ≤ x then 1 else 0
def xMar (t : Nat) (x mo : Int32) : Nat := if x < 0 then 1 else if 3 ≤ x then 1 else if bEn t mo = 0 then 1 else 0
def xMo (t : Nat) (mo : Int32) : Nat := if bEn t mo = 0 then 1 else 0
theorem S32_z {f : Nat → Int32} : ∀ {n : Nat}, (∀ k, k < n → f k = 0) → S32 f n = 0
  | 0, _ => rfl
  | n + 1, h => by rw [S32, S32_z (fun k hk => h k (by omega)), h n (by omega)]; rfl
theorem S64_z {f : Nat → Int64} : ∀ {n : Nat}, (∀ k, k < n → f k = 0) → S64 f n = 0
  | 0, _ => rfl
  | n + 1, h => by rw [S64, S64_z (fun k hk => h k (by omega)), h n (by omega)]; rfl
theorem S32_k {f : Nat → Int32} {k : Nat} (h : f k = 0) : S32 f (k + 1) = S32 f k := by rw [S32, h, Int32.add_zero]
theorem lPt_z {w : MS} {p : Nat} : S32 (lPt w p) p = 0 := S32_z (fun k hk => if_pos hk)
theorem lFd_z {w : MS} {p : Nat} : S64 (lFd w p) p = 0 := S64_z (fun k hk => if_pos hk)
theorem lPt_s {w : MS} {p k : Nat} (h : p ≤ k) : S32 (lPt w p) k + w 1 k = S32 (lPt w p) (k + 1) := by
  rw [S32, lPt, if_neg (Nat.not_lt.mpr h)]
theorem lFd_s {w : MS} {p k : Nat} (h : p ≤ k) : S64 (lFd w p) k + (w 1 k).toInt64 * (w 2 k).toInt64 = S64 (lFd w p) (k + 1) := by
  rw [S64, lFd, if_neg (Nat.not_lt.mpr h)]
theorem bSm_s {n : Nat} {F : Nat → Int32} {k : Nat} (h : k < n) : S32 (bSm n F) k + F k = S32 (bSm n F) (k + 1) := by
  rw [S32, bSm, if_pos h]
theorem bSm_k {n : Nat} {F : Nat → Int32} {k : Nat} (h : n ≤ k) : S32 (bSm n F) (k + 1) = S32 (bSm n F) k := S32_k (if_neg (Nat.not_lt.mpr h))
theorem bSm_0 {n : Nat} {F : Nat → Int32} {k : Nat} (h : F k = 0) : S32 (bSm n F) (k + 1) = S32 (bSm n F) k := S32_k (by rw [bSm]; split <;> first | exact h | rfl)
section BK
variable {p : Program} {l : Launch} {e : Env} {R : Room} {s : State} {m : MethodId} {args : Array Value} {below : List Frame} {meth : Method} {c : Code} {H : Heap} {locs : List Loc} {cells slots : Nat} {Q : State → Prop}
variable {cc : ByteArray} {pc : Nat} {ls : Array Slot} {rest st0 : List Value} {G : va_G} {y : Nat → ClassId} {A : Nat → Prop} {H0 : Heap} {a : Nat → Nat} {b : MS} {n : Nat} {la : Nat → Nat → Nat} {L : LNS}
theorem lv_optS {r : Option Nat} {x : Nat} (h : r = some x) (k : W p l e R s m args below meth c H locs cells slots Q (F0 m pc ls (.ref x :: rest))) : W p l e R s m args below meth c H locs cells slots Q (F0 m pc ls (va_rf r :: rest)) := by
  subst h
  exact k
theorem lv_optN {r : Option Nat} (h : r = none) (k : W p l e R s m args below meth c H locs cells slots Q (F0 m pc ls (.null :: rest))) : W p l e R s m args below meth c H locs cells slots Q (F0 m pc ls (va_rf r :: rest)) := by
  subst h
  exact k
theorem bk_ln (hP : va_P G vwCl (bkW y a b n la L) H) {i : Nat} (hi : i < n) : va_P G vwCl (lnC y la L i) H := by
  intro k q hk
  have h3 : k < 3 := (List.getElem?_eq_some_iff.mp hk).1
  exact hP (17 + 3 * i + k) q (by rw [bkW_get hi k h3]; exact hk)
def rpW (y : Nat → ClassId) (a : Nat → Nat) (b : MS) : va_W := [(a 8, .inr (1, [.ref (a 14), .ref (a 15)])), (a 14, .inl (y 0, 6, .inl (b 14))), (a 15, .inl (y 0, 6, .inl (b 15)))]
theorem bk_rp (hP : va_P G vwCl (bkW y a b n la L) H) : va_P G vwCl (rpW y a b) H := hP.sub [4, 5, 6] rfl
theorem bg_M {k : Nat} (h : k < 3) : (bkW y a b n la L)[8 + k]? = some (a (16 + k), .inl (y 0, 47, .inl (b (16 + k)))) := by
  rcases (show k = 0 ∨ k = 1 ∨ k = 2 by omega) with rfl | rfl | rfl <;> rfl
theorem bs_M {k t : Nat} {z : Int32} (h : k < 3) : (bkW y a b n la L).set (8 + k) (a (16 + k), .inl (y 0, 47, .inl (upd (b (16 + k)) t z))) = bkW y a (u2 b (16 + k) t z) n la L := by
  rcases (show k = 0 ∨ k = 1 ∨ k = 2 by omega) with rfl | rfl | rfl <;> rfl
theorem bg_P {k : Nat} (h : k < 3) : (bkW y a b n la L)[12 + k]? = some (a (19 + k), .inl (y 0, 47, .inl (b (19 + k)))) := by
  rcases (show k = 0 ∨ k = 1 ∨ k = 2 by omega) with rfl | rfl | rfl <;> rfl
theorem bs_P {k t : Nat} {z : Int32} (h : k < 3) : (bkW y a b n la L).set (12 + k) (a (19 + k), .inl (y 0, 47, .inl (upd (b (19 + k)) t z))) = bkW y a (u2 b (19 + k) t z) n la L := by
  rcases (show k = 0 ∨ k = 1 ∨ k = 2 by omega) with rfl | rfl | rfl <;> rfl
theorem bg_0 : (bkW y a b n la L)[1]? = some (a 0, .inl (y 0, 6, .inl (b 0))) := rfl
theorem bs_0 {k : Nat} {z : Int32} : (bkW y a b n la L).set 1 (a 0, .inl (y 0, 6, .inl (upd (b 0) k z))) = bkW y a (u2 b 0 k z) n la L := rfl
theorem bg_7 : (bkW y a b n la L)[3]? = some (a 7, .inl (y 0, 3, .inl (b 7))) := rfl
theorem bs_7 {k : Nat} {z : Int32} : (bkW y a b n la L).set 3 (a 7, .inl (y 0, 3, .inl (upd (b 7) k z))) = bkW y a (u2 b 7 k z) n la L := rfl
theorem bg_14 : (bkW y a b n la L)[5]? = some (a 14, .inl (y 0, 6, .inl (b 14))) := rfl
theorem bs_14 {k : Nat} {z : Int32} : (bkW y a b n la L).set 5 (a 14, .inl (y 0, 6, .inl (upd (b 14) k z))) = bkW y a (u2 b 14 k z) n la L := rfl
theorem bg_15 : (bkW y a b n la L)[6]? = some (a 15, .inl (y 0, 6, .inl (b 15))) := rfl
theorem bs_15 {k : Nat} {z : Int32} : (bkW y a b n la L).set 6 (a 15, .inl (y 0, 6, .inl (upd (b 15) k z))) = bkW y a (u2 b 15 k z) n la L := rfl
theorem bg_11 : (bkW y a b n la L)[15]? = some (a 11, .inl (y 0, 47, .inl (b 11))) := rfl
theorem bs_11 {k : Nat} {z : Int32} : (bkW y a b n la L).set 15 (a 11, .inl (y 0, 47, .inl (upd (b 11) k z))) = bkW y a (u2 b 11 k z) n la L := rfl
theorem bg_12 : (bkW y a b n la L)[16]? = some (a 12, .inl (y 0, 47, .inl (b 12))) := rfl
theorem bs_12 {k : Nat} {z : Int32} : (bkW y a b n la L).set 16 (a 12, .inl (y 0, 47, .inl (upd (b 12) k z))) = bkW y a (u2 b 12 k z) n la L := rfl
theorem bg_5 : (bkW y a b n la L)[2]? = some (a 5, .inl (y 2, 24, .inr (.inr (.inr (.inr (lrF n la)))))) := rfl
theorem bg_9 : (bkW y a b n la L)[7]? = some (a 9, .inl (y 3, 3, .inr (.inr (.inr (.inr (fun i => if i < 3 then some (a (16 + i)) else none)))))) := rfl
theorem bg_10 : (bkW y a b n la L)[11]? = some (a 10, .inl (y 3, 3, .inr (.inr (.inr (.inr (fun i => if i < 3 then some (a (19 + i)) else none)))))) := rfl
/-- a loan's paid parts, written -/
theorem lnS {Ts : List Cond} {index i : Nat} {x : Int32} (hexec : p.tables.exec = Jvm.exec) (hb : c.code = cc) (hts : ∀ w ∈ Ts, w.before args s = true) (hin : ∀ w ∈ u_ws RX0 TX0 8, w ∈ Ts) (hown : s.vm.findClass RX0 = some m.cls) (hK : Kb G y s) (hP : va_P G vwCl (bkW y a b n la L) H) (hD : va_D A (bkW y a b n la L)) (hS : va_S A H0 H locs) (hi : i < n) (hlink : (Cond.fieldLink RX0 index (TX0 7).1 (TX0 7).2.1 (TX0 7).2.2.1).before args s = true) (hdg : decode cc pc = .ok (.putfield index, 3))
    (kk : ∀ (H1 : Heap) (locs1 : List Loc), va_P G vwCl (bkW y a b n la (u3 L i x)) H1 → va_D A (bkW y a b n la (u3 L i x)) → va_S A H0 H1 locs1 → W p l e R s m args below meth c H1 locs1 cells slots Q (F0 m (pc + 3) ls rest)) : W p l e R s m args below meth c H locs cells slots Q (F0 m pc ls (.int x :: .ref (la i 0) :: rest)) := by
  have hg : (bkW y a b n la L)[17 + 3 * i]? = some (la i 0, .inr (0, lnF la L i)) := (bkW_get hi 0 (by decide)).trans rfl
  refine va_put (ci := 0) (C := RX0) (T := TX0) (N := 8) (v := .int x) (ty := .int) hexec hb hts hin tyX0 tyX0_ok nmX0 hown hK.1 hP hD hS (17 + 3 * i) hg rfl 7 (by decide) hlink (fun _ h9 => h9) rfl (by decide +kernel) rfl rfl (by show 7 < 8; decide) hdg (fun H1 locs1 h1 h2 h3 => ?_)
  rw [bkW_set hi] at h1 h2
  exact kk H1 locs1 h1 h2 h3
theorem lnG {Ts : List Cond} {index i : Nat} {val : Value} (hexec : p.tables.exec = Jvm.exec) (hb : c.code = cc) (hts : ∀ w ∈ Ts, w.before args s = true) (hin : ∀ w ∈ u_ws RX0 TX0 8, w ∈ Ts) (hown : s.vm.findClass RX0 = some m.cls) (hK : Kb G y s) (hP : va_P G vwCl (lnC y la L i) H) (k : Nat) (hk : k < 8) (hlink : (Cond.fieldLink RX0 index (TX0 k).1 (TX0 k).2.1 (TX0 k).2.2.1).before args s = true) (hv : (lnF la L i)[k]? = some val) (hdg : decode cc pc = .ok (.getfield index, 3))
    (kk : W p l e R s m args below meth c H locs cells slots Q (F0 m (pc + 3) ls (val :: rest))) : W p l e R s m args below meth c H locs cells slots Q (F0 m pc ls (.ref (la i 0) :: rest)) :=
  va_get (ci := 0) (C := RX0) (T := TX0) (N := 8) hexec hb hts hin hown hK.1 hP 0 rfl rfl k hk hlink (fun _ h9 => h9) hv hdg kk
/-- out of the book, a nest mate's -/
theorem lnGN {Ts : List Cond} {index i : Nat} {val : Value} (hexec : p.tables.exec = Jvm.exec) (hb : c.code = cc) (hts : ∀ w ∈ Ts, w.before args s = true) (hin : ∀ w ∈ u_ws RX0 TX0 8, w ∈ Ts) (hown : s.vm.findClass RX2 = some m.cls) (hK : Kb G y s) (hP : va_P G vwCl (lnC y la L i) H) (k : Nat) (hk : k < 8) (hlink : (Cond.fieldLinkNest RX2 index (TX0 k).1 (TX0 k).2.1 (TX0 k).2.2.1 "FundBook") ∈ twH) (hv : (lnF la L i)[k]? = some val) (hdg : decode cc pc = .ok (.getfield index, 3))
    (kk : W p l e R s m args below meth c H locs cells slots Q (F0 m (pc + 3) ls (val :: rest))) : W p l e R s m args below meth c H locs cells slots Q (F0 m pc ls (.ref (la i 0) :: rest)) :=
  va_getN (ci := 0) (C := RX0) (T := TX0) (N := 8) hexec hb hts hin hown hK.1 hP 0 rfl rfl k hk (va_Nw.use (by rfl) (hK.nw hlink)) (fun _ h9 => h9) hv hdg kk
theorem rpG {Ts : List Cond} {index : Nat} {val : Value} (hexec : p.tables.exec = Jvm.exec) (hb : c.code = cc) (hts : ∀ w ∈ Ts, w.before args s = true) (hin : ∀ w ∈ u_ws RX1 TX1 2, w ∈ Ts) (hown : s.vm.findClass RX1 = some m.cls) (hK : Kb G y s) (hP : va_P G vwCl (rpW y a b) H) (k : Nat) (hk : k < 2) (hlink : (Cond.fieldLink RX1 index (TX1 k).1 (TX1 k).2.1 (TX1 k).2.2.1).before args s = true) (hv : ([.ref (a 14), .ref (a 15)] : List Value)[k]? = some val) (hdg : decode cc pc = .ok (.getfield index, 3))
    (kk : W p l e R s m args below meth c H locs cells slots Q (F0 m (pc + 3) ls (val :: rest))) : W p l e R s m args below meth c H locs cells slots Q (F0 m pc ls (.ref (a 8) :: rest)) :=
  va_get (ci := 1) (C := RX1) (T := TX1) (N := 2) hexec hb hts hin hown hK.1 hP 0 rfl rfl k hk hlink (fun _ h9 => h9) hv hdg kk
theorem rpGN {Ts : List Cond} {index : Nat} {val : Value} (hexec : p.tables.exec = Jvm.exec) (hb : c.code = cc) (hts : ∀ w ∈ Ts, w.before args s = true) (hin : ∀ w ∈ u_ws RX1 TX1 2, w ∈ Ts) (hown : s.vm.findClass RX2 = some m.cls) (hK : Kb G y s) (hP : va_P G vwCl (rpW y a b) H) (k : Nat) (hk : k < 2) (hlink : (Cond.fieldLinkNest RX2 index (TX1 k).1 (TX1 k).2.1 (TX1 k).2.2.1 "FundBook") ∈ twH) (hv : ([.ref (a 14), .ref (a 15)] : List Value)[k]? = some val) (hdg : decode cc pc = .ok (.getfield index, 3))
    (kk : W p l e R s m args below meth c H locs cells slots Q (F0 m (pc + 3) ls (val :: rest))) : W p l e R s m args below meth c H locs cells slots Q (F0 m pc ls (.ref (a 8) :: rest)) :=
  va_getN (ci := 1) (C := RX1) (T := TX1) (N := 2) hexec hb hts hin hown hK.1 hP 0 rfl rfl k hk (va_Nw.use (by rfl) (hK.nw hlink)) (fun _ h9 => h9) hv hdg kk
end BK
theorem bR1_o {b : MS} {t n : Nat} {L : LNS} {pd : Nat → Nat} {j : Nat} : ∀ k, k ≤ 3 → (j < 16 ∨ 19 ≤ j) → bR1 b t n L pd k j = b j
  | 0, _, _ => rfl
  | k + 1, h, hj => by rw [bR1, u2_j (by omega), bR1_o k (by omega) hj]
theorem bR2_o {b : MS} {t n : Nat} {L : LNS} {pd : Nat → Nat} {j : Nat} : ∀ k, k ≤ 3 → (j < 19 ∨ 22 ≤ j) → bR2 b t n L pd k j = b j
  | 0, _, _ => rfl
  | k + 1, h, hj => by rw [bR2, u2_j (by omega), bR2_o k (by omega) hj]
theorem bD1_o {b : MS} {t : Nat} {j : Nat} : ∀ k, k ≤ 3 → (j < 11 ∨ 13 ≤ j) → (j < 16 ∨ 19 ≤ j) → bD1 b t k j = b j
  | 0, _, _, _ => rfl
  | k + 1, h, h1, h2 => by rw [bD1, u2_j (by omega), u2_j (by omega), u2_j (by omega), bD1_o k (by omega) h1 h2]
theorem bLA_o {b : MS} {am rt : Int32} {j : Nat} (h1 : j ≠ 14) (h2 : j ≠ 15) : ∀ k, bLA b am rt k j = b j
  | 0 => rfl
  | k + 1 => by rw [bLA, bLay, u2_j h2, u2_j h1, bLA_o h1 h2 k]
end
section
/-! ===== loans, replica, the book's reads (printed by a program of mine) ===== -/
set_option maxHeartbeats 4000000 in
set_option maxRecDepth 100000 in
theorem c_X2_forOneMonth (l : Launch) (x : Int64) : Met l yX2_forOneMonth wsX2_forOneMonth ({ frames := 0, cells := 0, slots := 0, locals := 0 }) (nP [.long x]) (QcV (.int (d12 x))) 0 0 (fun _ => False) := by
  refine Met.ofW (cc := cX2_forOneMonth) (maxL := 2) (ret := (some .int)) (by decide) rfl ?_
  intro p e s m args below meth c s₁ B hml hv
  obtain ⟨rfl, -⟩ := hv
  have hx := B.exec
  have hb := B.bytes
  have hr := B.returns
  have hts := atoms_spec (ws := wsX2_forOneMonth) B.pre
  have hown : s.vm.findClass RX2 = some m.cls := findClass_of_methodNamed B.named
  have hlocks := B.notSynchronized
  have hl := lv_entry ([.long x]) (n := 2) (Nat.le_of_ble_eq_true rfl)
  rw [lg_entry_eq]
  generalize (lg_sl ([.long x]) ++ List.replicate (2 - (lg_sl ([.long x])).length) Slot.unset).toArray = ls at hl ⊢
  have hl : lv_has ls 2 [(0, .long x)] := hl
  refine lv_lload_n hx hb dX2_forOneMonth_0 rfl (lv_at hl 0 rfl) ?_
  refine lv_ldc2 (v := 120000) hx hb hown (hts (.constantLong RX2 187 120000) (by decide +kernel)) dX2_forOneMonth_1 ?_
  refine lv_ldiv hx hb dX2_forOneMonth_4 (by decide) ?_
  refine lv_l2i hx hb dX2_forOneMonth_5 rfl ?_
  exact W.iret (v := (x / 120000).toInt32) hx hb hr (fun t ht hW => ⟨congrArg (fun z => Outcome.returned (some (.int z))) (rfl), ht⟩) t_nil dX2_forOneMonth_6
set_option maxHeartbeats 4000000 in
set_option maxRecDepth 100000 in
theorem c_X0_unpaid (l : Launch) (G : va_G) (y : Nat → ClassId) (la : Nat → Nat → Nat) (L : LNS) (i : Nat) (pq : Nat) (hp : L i 0 7 = nI pq) (hp6 : pq ≤ 6) : Met l yX0_unpaid wsX0_unpaid ({ frames := 0, cells := 0, slots := 0, locals := 0 }) (rP G y [.ref (la i 0)] (lnC y la L i)) (QcV (.int (lUnp (L i) pq))) 0 0 (fun _ => False) := by
  refine Met.ofW (cc := cX0_unpaid) (maxL := 3) (ret := (some .int)) (by decide) rfl ?_
  intro p e s m args below meth c s₁ B hml hv
  obtain ⟨rfl, hP, hK⟩ := hv
  have hx := B.exec
  have hb := B.bytes
  have hr := B.returns
  have hts := atoms_spec (ws := wsX0_unpaid) B.pre
  have hown : s.vm.findClass RX0 = some m.cls := findClass_of_methodNamed B.named
  have hlocks := B.notSynchronized
  have hl := lv_entry ([.ref (la i 0)]) (n := 3) (Nat.le_of_ble_eq_true rfl)
  rw [lg_entry_eq]
  generalize (lg_sl ([.ref (la i 0)]) ++ List.replicate (3 - (lg_sl ([.ref (la i 0)])).length) Slot.unset).toArray = ls at hl ⊢
  have hin0 : ∀ w ∈ wsX00, w ∈ wsX0_unpaid := by decide +kernel
  have hl : lv_has ls 3 [(0, .ref (la i 0))] := hl
  refine lv_iconst (v := 0) hx hb dX0_unpaid_0 (by decide) ?_
  refine lv_istore_n (lv' := [(1, .int 0), (0, .ref (la i 0))]) hx hb dX0_unpaid_1 rfl hl (by decide) rfl (fun ls hl => ?_)
  refine lv_aload_n hx hb dX0_unpaid_2 rfl (lv_at hl 1 rfl) ?_
  refine lnG (i := i) (val := .int (L i 0 7)) hx hb hts hin0 hown hK hP 7 (by decide) (hts (.fieldLink RX0 35 "FundBook$Loan" "paidParts" "I") (by decide +kernel)) rfl dX0_unpaid_3 ?_
  refine lv_topE (z := nI pq) (hp) ?_
  refine lv_istore_n (lv' := [(2, .int (nI pq)), (1, .int 0), (0, .ref (la i 0))]) hx hb dX0_unpaid_6 rfl hl (by decide) rfl (fun ls hl => ?_)
  refine loopF (LV := fun k => [(0, .ref (la i 0)), (1, .int (S32 (lPt (L i) pq) k)), (2, .int (nI k))]) pq 6 hp6 (by show lv_has ls 3 [(0, .ref (la i 0)), (1, .int (S32 (lPt (L i) pq) pq)), (2, .int (nI pq))]; rw [lPt_z]; exact lv_sub hl [2, 1, 0] rfl) (fun k ls hk0 hk_k hl ih_k => ?_) (fun ls hl => ?_)
  · have hl : lv_has ls 3 [(0, .ref (la i 0)), (1, .int (S32 (lPt (L i) pq) k)), (2, .int (nI k))] := hl
    refine lv_iload_n hx hb dX0_unpaid_7 rfl (lv_at hl 2 rfl) ?_
    refine lv_bipush (v := 6) hx hb dX0_unpaid_8 (by decide) ?_
    refine lv_icmp_ge (tgt := 28) hx hb dX0_unpaid_10 (by decide) (fun c_10 => absurd c_10 (nI_ge hk_k (by decide))) (fun c_10 => ?_)
    refine lv_iload_n hx hb dX0_unpaid_13 rfl (lv_at hl 1 rfl) ?_
    refine lv_aload_n hx hb dX0_unpaid_14 rfl (lv_at hl 0 rfl) ?_
    refine lnG (i := i) (val := .ref (la i 1)) hx hb hts hin0 hown hK hP 5 (by decide) (hts (.fieldLink RX0 28 "FundBook$Loan" "parts" "[I") (by decide +kernel)) rfl dX0_unpaid_15 ?_
    refine lv_iload_n hx hb dX0_unpaid_18 rfl (lv_at hl 2 rfl) ?_
    refine ldI (f := L i 1) hx hb hK hP 1 rfl k rfl (by omega) (by decide) dX0_unpaid_19 ?_
    refine lv_iadd hx hb dX0_unpaid_20 ?_
    refine lv_topE (z := S32 (lPt (L i) pq) (k + 1)) (lPt_s hk0) ?_
    refine lv_istore_n (lv' := [(1, .int (S32 (lPt (L i) pq) (k + 1))), (0, .ref (la i 0)), (2, .int (nI k))]) hx hb dX0_unpaid_21 rfl hl (by decide) rfl (fun ls hl => ?_)
    refine lv_iinc (v := (nI (k + 1))) (lv' := [(2, .int (nI (k + 1))), (1, .int (S32 (lPt (L i) pq) (k + 1))), (0, .ref (la i 0))]) hx hb dX0_unpaid_22 hl (k := 2) rfl iinc1 (by decide) rfl (fun ls hl => ?_)
    refine lv_goto (tgt := 7) hx hb dX0_unpaid_25 (by decide) ?_
    exact ih_k ls (lv_sub hl [2, 1, 0] rfl)
  · have hl : lv_has ls 3 [(0, .ref (la i 0)), (1, .int (S32 (lPt (L i) pq) 6)), (2, .int (nI 6))] := hl
    refine lv_iload_n hx hb dX0_unpaid_7 rfl (lv_at hl 2 rfl) ?_
    refine lv_bipush (v := 6) hx hb dX0_unpaid_8 (by decide) ?_
    refine lv_icmp_ge (tgt := 28) hx hb dX0_unpaid_10 (by decide) (fun c_10 => ?_) (fun c_10 => absurd (nI_le (Nat.le_refl 6) (by decide)) c_10)
    refine lv_iload_n hx hb dX0_unpaid_28 rfl (lv_at hl 1 rfl) ?_
    exact W.iret (v := S32 (lPt (L i) pq) 6) hx hb hr (fun t ht hW => ⟨congrArg (fun z => Outcome.returned (some (.int z))) (rfl), ht⟩) t_nil dX0_unpaid_29
set_option maxHeartbeats 4000000 in
set_option maxRecDepth 100000 in
theorem c_X0_funding (l : Launch) (G : va_G) (y : Nat → ClassId) (la : Nat → Nat → Nat) (L : LNS) (i : Nat) (pq : Nat) (hp : L i 0 7 = nI pq) (hp6 : pq ≤ 6) : Met l yX0_funding wsX0_funding ({ frames := 1, cells := 0, slots := 0, locals := 21 }) (rP G y [.ref (la i 0)] (lnC y la L i)) (QcV (.int (lFund (L i) pq))) 0 0 (fun _ => False) := by
  refine Met.ofW (cc := cX0_funding) (maxL := 4) (ret := (some .int)) (by decide) rfl ?_
  intro p e s m args below meth c s₁ B hml hv
  obtain ⟨rfl, hP, hK⟩ := hv
  have hx := B.exec
  have hb := B.bytes
  have hr := B.returns
  have hts := atoms_spec (ws := wsX0_funding) B.pre
  have hown : s.vm.findClass RX0 = some m.cls := findClass_of_methodNamed B.named
  have hlocks := B.notSynchronized
  have hl := lv_entry ([.ref (la i 0)]) (n := 4) (Nat.le_of_ble_eq_true rfl)
  rw [lg_entry_eq]
  generalize (lg_sl ([.ref (la i 0)]) ++ List.replicate (4 - (lg_sl ([.ref (la i 0)])).length) Slot.unset).toArray = ls at hl ⊢
  have hin0 : ∀ w ∈ wsX00, w ∈ wsX0_funding := by decide +kernel
  have hl : lv_has ls 4 [(0, .ref (la i 0))] := hl
  refine lv_lconst (v := 0) hx hb dX0_funding_0 (by decide) ?_
  refine lv_lstore_n (lv' := [(1, .long 0), (0, .ref (la i 0))]) hx hb dX0_funding_1 rfl hl (by decide) rfl (fun ls hl => ?_)
  refine lv_aload_n hx hb dX0_funding_2 rfl (lv_at hl 1 rfl) ?_
  refine lnG (i := i) (val := .int (L i 0 7)) hx hb hts hin0 hown hK hP 7 (by decide) (hts (.fieldLink RX0 35 "FundBook$Loan" "paidParts" "I") (by decide +kernel)) rfl dX0_funding_3 ?_
  refine lv_topE (z := nI pq) (hp) ?_
  refine lv_istore_n (lv' := [(3, .int (nI pq)), (1, .long 0), (0, .ref (la i 0))]) hx hb dX0_funding_6 rfl hl (by decide) rfl (fun ls hl => ?_)
  refine loopF (LV := fun k => [(0, .ref (la i 0)), (1, .long (S64 (lFd (L i) pq) k)), (3, .int (nI k))]) pq 6 hp6 (by show lv_has ls 4 [(0, .ref (la i 0)), (1, .long (S64 (lFd (L i) pq) pq)), (3, .int (nI pq))]; rw [lFd_z]; exact lv_sub hl [2, 1, 0] rfl) (fun k ls hk0 hk_k hl ih_k => ?_) (fun ls hl => ?_)
  · have hl : lv_has ls 4 [(0, .ref (la i 0)), (1, .long (S64 (lFd (L i) pq) k)), (3, .int (nI k))] := hl
    refine lv_iload_n hx hb dX0_funding_7 rfl (lv_at hl 2 rfl) ?_
    refine lv_bipush (v := 6) hx hb dX0_funding_8 (by decide) ?_
    refine lv_icmp_ge (tgt := 37) hx hb dX0_funding_10 (by decide) (fun c_10 => absurd c_10 (nI_ge hk_k (by decide))) (fun c_10 => ?_)
    refine lv_lload_n hx hb dX0_funding_13 rfl (lv_at hl 1 rfl) ?_
    refine lv_aload_n hx hb dX0_funding_14 rfl (lv_at hl 0 rfl) ?_
    refine lnG (i := i) (val := .ref (la i 1)) hx hb hts hin0 hown hK hP 5 (by decide) (hts (.fieldLink RX0 28 "FundBook$Loan" "parts" "[I") (by decide +kernel)) rfl dX0_funding_15 ?_
    refine lv_iload_n hx hb dX0_funding_18 rfl (lv_at hl 2 rfl) ?_
    refine ldI (f := L i 1) hx hb hK hP 1 rfl k rfl (by omega) (by decide) dX0_funding_19 ?_
    refine lv_i2l hx hb dX0_funding_20 rfl ?_
    refine lv_aload_n hx hb dX0_funding_21 rfl (lv_at hl 0 rfl) ?_
    refine lnG (i := i) (val := .ref (la i 2)) hx hb hts hin0 hown hK hP 6 (by decide) (hts (.fieldLink RX0 32 "FundBook$Loan" "fundingRates" "[I") (by decide +kernel)) rfl dX0_funding_22 ?_
    refine lv_iload_n hx hb dX0_funding_25 rfl (lv_at hl 2 rfl) ?_
    refine ldI (f := L i 2) hx hb hK hP 2 rfl k rfl (by omega) (by decide) dX0_funding_26 ?_
    refine lv_i2l hx hb dX0_funding_27 rfl ?_
    refine lv_lmul hx hb dX0_funding_28 ?_
    refine lv_ladd hx hb dX0_funding_29 ?_
    refine lv_topEl (z := S64 (lFd (L i) pq) (k + 1)) (lFd_s hk0) ?_
    refine lv_lstore_n (lv' := [(1, .long (S64 (lFd (L i) pq) (k + 1))), (0, .ref (la i 0)), (3, .int (nI k))]) hx hb dX0_funding_30 rfl hl (by decide) rfl (fun ls hl => ?_)
    refine lv_iinc (v := (nI (k + 1))) (lv' := [(3, .int (nI (k + 1))), (1, .long (S64 (lFd (L i) pq) (k + 1))), (0, .ref (la i 0))]) hx hb dX0_funding_31 hl (k := 2) rfl iinc1 (by decide) rfl (fun ls hl => ?_)
    refine lv_goto (tgt := 7) hx hb dX0_funding_34 (by decide) ?_
    exact ih_k ls (lv_sub hl [2, 1, 0] rfl)
  · have hl : lv_has ls 4 [(0, .ref (la i 0)), (1, .long (S64 (lFd (L i) pq) 6)), (3, .int (nI 6))] := hl
    refine lv_iload_n hx hb dX0_funding_7 rfl (lv_at hl 2 rfl) ?_
    refine lv_bipush (v := 6) hx hb dX0_funding_8 (by decide) ?_
    refine lv_icmp_ge (tgt := 37) hx hb dX0_funding_10 (by decide) (fun c_10 => ?_) (fun c_10 => absurd (nI_le (Nat.le_refl 6) (by decide)) c_10)
    refine lv_lload_n hx hb dX0_funding_37 rfl (lv_at hl 1 rfl) ?_
    refine caR (r := .int (lFund (L i) pq)) (va_runSN (As := [.long (S64 (lFd (L i) pq) 6)]) (rest := []) ⟨hx, hb, hml, hown, hts⟩ (c_X2_forOneMonth l _) ⟨va_cnB (host := "FundBook") 1 hts gX0_funding_X2_forOneMonth_n42 rfl rfl rfl (hK.nw (by decide +kernel)) (hts (.initialized RX2) (by decide +kernel)) (by decide +kernel) ⟨Nat.le_of_ble_eq_true rfl, Nat.le_of_ble_eq_true rfl⟩, hts (.static yX2_forOneMonth) (by decide +kernel), trivial⟩ ⟨nP_bl, fun _ _ _ => ⟨rfl, trivial⟩⟩ rfl rfl hl.1 rfl (lv_room (Nat.le_of_ble_eq_true rfl)) dX0_funding_38 ⟨Nat.le_of_ble_eq_true rfl, Nat.le_of_ble_eq_true rfl⟩) ?_
    exact W.iret (v := lFund (L i) pq) hx hb hr (fun t ht hW => ⟨congrArg (fun z => Outcome.returned (some (.int z))) (rfl), ht⟩) t_nil dX0_funding_41
set_option maxHeartbeats 4000000 in
set_option maxRecDepth 100000 in
theorem c_X0_customerInterest (l : Launch) (G : va_G) (y : Nat → ClassId) (la : Nat → Nat → Nat) (L : LNS) (i : Nat) (pq : Nat) (hp : L i 0 7 = nI pq) (hp6 : pq ≤ 6) : Met l yX0_customerInterest wsX0_customerInterest ({ frames := 1, cells := 0, slots := 0, locals := 22 }) (rP G y [.ref (la i 0)] (lnC y la L i)) (QcV (.int (lCust (L i) pq))) 0 0 (fun _ => False) := by
  refine Met.ofW (cc := cX0_customerInterest) (maxL := 1) (ret := (some .int)) (by decide) rfl ?_
  intro p e s m args below meth c s₁ B hml hv
  obtain ⟨rfl, hP, hK⟩ := hv
  have hx := B.exec
  have hb := B.bytes
  have hr := B.returns
  have hts := atoms_spec (ws := wsX0_customerInterest) B.pre
  have hown : s.vm.findClass RX0 = some m.cls := findClass_of_methodNamed B.named
  have hlocks := B.notSynchronized
  have hl := lv_entry ([.ref (la i 0)]) (n := 1) (Nat.le_of_ble_eq_true rfl)
  rw [lg_entry_eq]
  generalize (lg_sl ([.ref (la i 0)]) ++ List.replicate (1 - (lg_sl ([.ref (la i 0)])).length) Slot.unset).toArray = ls at hl ⊢
  have hin0 : ∀ w ∈ wsX00, w ∈ wsX0_customerInterest := by decide +kernel
  have hl : lv_has ls 1 [(0, .ref (la i 0))] := hl
  refine lv_aload_n hx hb dX0_customerInterest_0 rfl (lv_at hl 0 rfl) ?_
  refine caR (r := .int (lUnp (L i) pq)) (va_runV (As := []) (rest := []) ⟨hx, hb, hml, hown, hts⟩ (c_X0_unpaid l G y la L i pq hp hp6) (cwV 0 hts gX0_customerInterest_X0_unpaid rfl rfl rfl (by decide +kernel) ⟨Nat.le_of_ble_eq_true rfl, Nat.le_of_ble_eq_true rfl⟩) ⟨rP_bl, va_recv hK.1 hP (ci := 0) (q0 := 0) rfl rfl, fun U hU hW => ⟨rfl, by rw [hU]; exact hP, Kb.moved hW hK⟩⟩ rfl rfl hl.1 rfl (lv_room (Nat.le_of_ble_eq_true rfl)) dX0_customerInterest_1 ⟨Nat.le_of_ble_eq_true rfl, Nat.le_of_ble_eq_true rfl⟩) ?_
  refine lv_i2l hx hb dX0_customerInterest_4 rfl ?_
  refine lv_aload_n hx hb dX0_customerInterest_5 rfl (lv_at hl 0 rfl) ?_
  refine lnG (i := i) (val := .int (L i 0 2)) hx hb hts hin0 hown hK hP 2 (by decide) (hts (.fieldLink RX0 18 "FundBook$Loan" "rate" "I") (by decide +kernel)) rfl dX0_customerInterest_6 ?_
  refine lv_i2l hx hb dX0_customerInterest_9 rfl ?_
  refine lv_lmul hx hb dX0_customerInterest_10 ?_
  refine caR (r := .int (lCust (L i) pq)) (va_runSN (As := [.long ((lUnp (L i) pq).toInt64 * (L i 0 2).toInt64)]) (rest := []) ⟨hx, hb, hml, hown, hts⟩ (c_X2_forOneMonth l _) ⟨va_cnB (host := "FundBook") 1 hts gX0_customerInterest_X2_forOneMonth_n42 rfl rfl rfl (hK.nw (by decide +kernel)) (hts (.initialized RX2) (by decide +kernel)) (by decide +kernel) ⟨Nat.le_of_ble_eq_true rfl, Nat.le_of_ble_eq_true rfl⟩, hts (.static yX2_forOneMonth) (by decide +kernel), trivial⟩ ⟨nP_bl, fun _ _ _ => ⟨rfl, trivial⟩⟩ rfl rfl hl.1 rfl (lv_room (Nat.le_of_ble_eq_true rfl)) dX0_customerInterest_11 ⟨Nat.le_of_ble_eq_true rfl, Nat.le_of_ble_eq_true rfl⟩) ?_
  exact W.iret (v := lCust (L i) pq) hx hb hr (fun t ht hW => ⟨congrArg (fun z => Outcome.returned (some (.int z))) (rfl), ht⟩) t_nil dX0_customerInterest_14
set_option maxHeartbeats 4000000 in
set_option maxRecDepth 100000 in
theorem c_X0_optionCharge (l : Launch) (G : va_G) (y : Nat → ClassId) (la : Nat → Nat → Nat) (L : LNS) (i : Nat) (pq : Nat) (hp : L i 0 7 = nI pq) (hp6 : pq ≤ 6) : Met l yX0_optionCharge wsX0_optionCharge ({ frames := 1, cells := 0, slots := 0, locals := 22 }) (rP G y [.ref (la i 0)] (lnC y la L i)) (QcV (.int (lOpt (L i) pq))) 0 0 (fun _ => False) := by
  refine Met.ofW (cc := cX0_optionCharge) (maxL := 1) (ret := (some .int)) (by decide) rfl ?_
  intro p e s m args below meth c s₁ B hml hv
  obtain ⟨rfl, hP, hK⟩ := hv
  have hx := B.exec
  have hb := B.bytes
  have hr := B.returns
  have hts := atoms_spec (ws := wsX0_optionCharge) B.pre
  have hown : s.vm.findClass RX0 = some m.cls := findClass_of_methodNamed B.named
  have hlocks := B.notSynchronized
  have hl := lv_entry ([.ref (la i 0)]) (n := 1) (Nat.le_of_ble_eq_true rfl)
  rw [lg_entry_eq]
  generalize (lg_sl ([.ref (la i 0)]) ++ List.replicate (1 - (lg_sl ([.ref (la i 0)])).length) Slot.unset).toArray = ls at hl ⊢
  have hin0 : ∀ w ∈ wsX00, w ∈ wsX0_optionCharge := by decide +kernel
  have hl : lv_has ls 1 [(0, .ref (la i 0))] := hl
  refine lv_aload_n hx hb dX0_optionCharge_0 rfl (lv_at hl 0 rfl) ?_
  refine caR (r := .int (lUnp (L i) pq)) (va_runV (As := []) (rest := []) ⟨hx, hb, hml, hown, hts⟩ (c_X0_unpaid l G y la L i pq hp hp6) (cwV 0 hts gX0_optionCharge_X0_unpaid rfl rfl rfl (by decide +kernel) ⟨Nat.le_of_ble_eq_true rfl, Nat.le_of_ble_eq_true rfl⟩) ⟨rP_bl, va_recv hK.1 hP (ci := 0) (q0 := 0) rfl rfl, fun U hU hW => ⟨rfl, by rw [hU]; exact hP, Kb.moved hW hK⟩⟩ rfl rfl hl.1 rfl (lv_room (Nat.le_of_ble_eq_true rfl)) dX0_optionCharge_1 ⟨Nat.le_of_ble_eq_true rfl, Nat.le_of_ble_eq_true rfl⟩) ?_
  refine lv_i2l hx hb dX0_optionCharge_4 rfl ?_
  refine lv_aload_n hx hb dX0_optionCharge_5 rfl (lv_at hl 0 rfl) ?_
  refine lnG (i := i) (val := .int (L i 0 4)) hx hb hts hin0 hown hK hP 4 (by decide) (hts (.fieldLink RX0 25 "FundBook$Loan" "optionRate" "I") (by decide +kernel)) rfl dX0_optionCharge_6 ?_
  refine lv_i2l hx hb dX0_optionCharge_9 rfl ?_
  refine lv_lmul hx hb dX0_optionCharge_10 ?_
  refine caR (r := .int (lOpt (L i) pq)) (va_runSN (As := [.long ((lUnp (L i) pq).toInt64 * (L i 0 4).toInt64)]) (rest := []) ⟨hx, hb, hml, hown, hts⟩ (c_X2_forOneMonth l _) ⟨va_cnB (host := "FundBook") 1 hts gX0_optionCharge_X2_forOneMonth_n42 rfl rfl rfl (hK.nw (by decide +kernel)) (hts (.initialized RX2) (by decide +kernel)) (by decide +kernel) ⟨Nat.le_of_ble_eq_true rfl, Nat.le_of_ble_eq_true rfl⟩, hts (.static yX2_forOneMonth) (by decide +kernel), trivial⟩ ⟨nP_bl, fun _ _ _ => ⟨rfl, trivial⟩⟩ rfl rfl hl.1 rfl (lv_room (Nat.le_of_ble_eq_true rfl)) dX0_optionCharge_11 ⟨Nat.le_of_ble_eq_true rfl, Nat.le_of_ble_eq_true rfl⟩) ?_
  exact W.iret (v := lOpt (L i) pq) hx hb hr (fun t ht hW => ⟨congrArg (fun z => Outcome.returned (some (.int z))) (rfl), ht⟩) t_nil dX0_optionCharge_14
set_option maxHeartbeats 4000000 in
set_option maxRecDepth 100000 in
theorem c_X0_ownMargin (l : Launch) (G : va_G) (y : Nat → ClassId) (la : Nat → Nat → Nat) (L : LNS) (i : Nat) (pq : Nat) (hp : L i 0 7 = nI pq) (hp6 : pq ≤ 6) : Met l yX0_ownMargin wsX0_ownMargin ({ frames := 2, cells := 0, slots := 0, locals := 44 }) (rP G y [.ref (la i 0)] (lnC y la L i)) (QcV (.int (lOwn (L i) pq))) 0 0 (fun _ => False) := by
  refine Met.ofW (cc := cX0_ownMargin) (maxL := 1) (ret := (some .int)) (by decide) rfl ?_
  intro p e s m args below meth c s₁ B hml hv
  obtain ⟨rfl, hP, hK⟩ := hv
  have hx := B.exec
  have hb := B.bytes
  have hr := B.returns
  have hts := atoms_spec (ws := wsX0_ownMargin) B.pre
  have hown : s.vm.findClass RX0 = some m.cls := findClass_of_methodNamed B.named
  have hlocks := B.notSynchronized
  have hl := lv_entry ([.ref (la i 0)]) (n := 1) (Nat.le_of_ble_eq_true rfl)
  rw [lg_entry_eq]
  generalize (lg_sl ([.ref (la i 0)]) ++ List.replicate (1 - (lg_sl ([.ref (la i 0)])).length) Slot.unset).toArray = ls at hl ⊢
  have hl : lv_has ls 1 [(0, .ref (la i 0))] := hl
  refine lv_aload_n hx hb dX0_ownMargin_0 rfl (lv_at hl 0 rfl) ?_
  refine caR (r := .int (lCust (L i) pq)) (va_runV (As := []) (rest := []) ⟨hx, hb, hml, hown, hts⟩ (c_X0_customerInterest l G y la L i pq hp hp6) (cwV 0 hts gX0_ownMargin_X0_customerInterest rfl rfl rfl (by decide +kernel) ⟨Nat.le_of_ble_eq_true rfl, Nat.le_of_ble_eq_true rfl⟩) ⟨rP_bl, va_recv hK.1 hP (ci := 0) (q0 := 0) rfl rfl, fun U hU hW => ⟨rfl, by rw [hU]; exact hP, Kb.moved hW hK⟩⟩ rfl rfl hl.1 rfl (lv_room (Nat.le_of_ble_eq_true rfl)) dX0_ownMargin_1 ⟨Nat.le_of_ble_eq_true rfl, Nat.le_of_ble_eq_true rfl⟩) ?_
  refine lv_aload_n hx hb dX0_ownMargin_4 rfl (lv_at hl 0 rfl) ?_
  refine caR (r := .int (lFund (L i) pq)) (va_runV (As := []) (rest := [.int (lCust (L i) pq)]) ⟨hx, hb, hml, hown, hts⟩ (c_X0_funding l G y la L i pq hp hp6) (cwV 0 hts gX0_ownMargin_X0_funding rfl rfl rfl (by decide +kernel) ⟨Nat.le_of_ble_eq_true rfl, Nat.le_of_ble_eq_true rfl⟩) ⟨rP_bl, va_recv hK.1 hP (ci := 0) (q0 := 0) rfl rfl, fun U hU hW => ⟨rfl, by rw [hU]; exact hP, Kb.moved hW hK⟩⟩ rfl rfl hl.1 rfl (lv_room (Nat.le_of_ble_eq_true rfl)) dX0_ownMargin_5 ⟨Nat.le_of_ble_eq_true rfl, Nat.le_of_ble_eq_true rfl⟩) ?_
  refine lv_isub hx hb dX0_ownMargin_8 ?_
  refine lv_aload_n hx hb dX0_ownMargin_9 rfl (lv_at hl 0 rfl) ?_
  refine caR (r := .int (lOpt (L i) pq)) (va_runV (As := []) (rest := [.int (lCust (L i) pq - lFund (L i) pq)]) ⟨hx, hb, hml, hown, hts⟩ (c_X0_optionCharge l G y la L i pq hp hp6) (cwV 0 hts gX0_ownMargin_X0_optionCharge rfl rfl rfl (by decide +kernel) ⟨Nat.le_of_ble_eq_true rfl, Nat.le_of_ble_eq_true rfl⟩) ⟨rP_bl, va_recv hK.1 hP (ci := 0) (q0 := 0) rfl rfl, fun U hU hW => ⟨rfl, by rw [hU]; exact hP, Kb.moved hW hK⟩⟩ rfl rfl hl.1 rfl (lv_room (Nat.le_of_ble_eq_true rfl)) dX0_ownMargin_10 ⟨Nat.le_of_ble_eq_true rfl, Nat.le_of_ble_eq_true rfl⟩) ?_
  refine lv_isub hx hb dX0_ownMargin_13 ?_
  exact W.iret (v := ((lCust (L i) pq - lFund (L i) pq) - lOpt (L i) pq)) hx hb hr (fun t ht hW => ⟨congrArg (fun z => Outcome.returned (some (.int z))) (rfl), ht⟩) t_nil dX0_ownMargin_14
set_option maxHeartbeats 4000000 in
set_option maxRecDepth 100000 in
theorem c_X0_partAhead (l : Launch) (G : va_G) (y : Nat → ClassId) (la : Nat → Nat → Nat) (L : LNS) (i : Nat) (pq : Nat) (hp : L i 0 7 = nI pq) (hp6 : pq ≤ 6) (x : Nat) (hx5 : x ≤ 5) : Met l yX0_partAhead wsX0_partAhead ({ frames := 0, cells := 0, slots := 0, locals := 0 }) (rP G y [.ref (la i 0), .int (nI x)] (lnC y la L i)) (QcV (.int (lAh (L i) pq x))) 0 0 (fun _ => False) := by
  refine Met.ofW (cc := cX0_partAhead) (maxL := 3) (ret := (some .int)) (by decide) rfl ?_
  intro p e s m args below meth c s₁ B hml hv
  obtain ⟨rfl, hP, hK⟩ := hv
  have hx := B.exec
  have hb := B.bytes
  have hr := B.returns
  have hts := atoms_spec (ws := wsX0_partAhead) B.pre
  have hown : s.vm.findClass RX0 = some m.cls := findClass_of_methodNamed B.named
  have hlocks := B.notSynchronized
  have hl := lv_entry ([.ref (la i 0), .int (nI x)]) (n := 3) (Nat.le_of_ble_eq_true rfl)
  rw [lg_entry_eq]
  generalize (lg_sl ([.ref (la i 0), .int (nI x)]) ++ List.replicate (3 - (lg_sl ([.ref (la i 0), .int (nI x)])).length) Slot.unset).toArray = ls at hl ⊢
  have hin0 : ∀ w ∈ wsX00, w ∈ wsX0_partAhead := by decide +kernel
  have hl : lv_has ls 3 [(0, .ref (la i 0)), (1, .int (nI x))] := hl
  refine lv_aload_n hx hb dX0_partAhead_0 rfl (lv_at hl 0 rfl) ?_
  refine lnG (i := i) (val := .int (L i 0 7)) hx hb hts hin0 hown hK hP 7 (by decide) (hts (.fieldLink RX0 35 "FundBook$Loan" "paidParts" "I") (by decide +kernel)) rfl dX0_partAhead_1 ?_
  refine lv_topE (z := nI pq) (hp) ?_
  refine lv_iload_n hx hb dX0_partAhead_4 rfl (lv_at hl 1 rfl) ?_
  refine lv_iadd hx hb dX0_partAhead_5 ?_
  refine lv_topE (z := nI (pq + x)) (nI_add pq x) ?_
  refine lv_istore_n (lv' := [(2, .int (nI (pq + x))), (0, .ref (la i 0)), (1, .int (nI x))]) hx hb dX0_partAhead_6 rfl hl (by decide) rfl (fun ls hl => ?_)
  refine lv_iload_n hx hb dX0_partAhead_7 rfl (lv_at hl 0 rfl) ?_
  refine lv_bipush (v := 6) hx hb dX0_partAhead_8 (by decide) ?_
  refine lv_icmp_ge (tgt := 22) hx hb dX0_partAhead_10 (by decide) (fun c_10 => ?_) (fun c_10 => ?_)
  · have h6 : ¬ pq + x < 6 := fun q => nI_ge q (by decide) c_10
    refine lv_iconst (v := 0) hx hb dX0_partAhead_22 (by decide) ?_
    exact W.iret (v := 0) hx hb hr (fun t ht hW => ⟨congrArg (fun z => Outcome.returned (some (.int z))) (by unfold lAh; exact (if_neg h6).symm), ht⟩) t_nil dX0_partAhead_23
  · have h6 : pq + x < 6 := n6lt c_10 (by omega)
    refine lv_aload_n hx hb dX0_partAhead_13 rfl (lv_at hl 1 rfl) ?_
    refine lnG (i := i) (val := .ref (la i 1)) hx hb hts hin0 hown hK hP 5 (by decide) (hts (.fieldLink RX0 28 "FundBook$Loan" "parts" "[I") (by decide +kernel)) rfl dX0_partAhead_14 ?_
    refine lv_iload_n hx hb dX0_partAhead_17 rfl (lv_at hl 0 rfl) ?_
    refine ldI (f := L i 1) hx hb hK hP 1 rfl (pq + x) rfl (by omega) (by decide) dX0_partAhead_18 ?_
    refine lv_goto (tgt := 23) hx hb dX0_partAhead_19 (by decide) ?_
    exact W.iret (v := L i 1 (pq + x)) hx hb hr (fun t ht hW => ⟨congrArg (fun z => Outcome.returned (some (.int z))) (by unfold lAh; exact (if_pos h6).symm), ht⟩) t_nil dX0_partAhead_23
set_option maxHeartbeats 4000000 in
set_option maxRecDepth 100000 in
theorem c_X0_payPart (l : Launch) (G : va_G) (y : Nat → ClassId) (a : Nat → Nat) (b : MS) (n : Nat) (la : Nat → Nat → Nat) (L : LNS) (sz : Nat) (i : Nat) (hi : i < n) (pq : Nat) (hp : L i 0 7 = nI pq) (hp6 : pq ≤ 6) : Met l yX0_payPart wsX0_payPart ({ frames := 0, cells := 0, slots := 0, locals := 0 }) (mP G y [.ref (la i 0)] (bkW y a b n la L) sz) (mQ G (fun _ : Unit => none) (fun _ => True) (fun _ => bkW y a b n la (bPP L i pq)) (va_A (bkW y a b n la L) sz)) 0 0 (va_A (bkW y a b n la L) sz) := by
  refine Met.ofW (cc := cX0_payPart) (maxL := 1) (ret := none) (by decide) rfl ?_
  intro p e s m args below meth c s₁ B hml hv
  obtain ⟨rfl, hsz, hP, hK, hD0⟩ := hv
  have hx := B.exec
  have hb := B.bytes
  have hr := B.returns
  have hts := atoms_spec (ws := wsX0_payPart) B.pre
  have hown : s.vm.findClass RX0 = some m.cls := findClass_of_methodNamed B.named
  have hlocks := B.notSynchronized
  subst hsz
  have hD := hD0.self (sz := s.heap.size)
  generalize hAe : va_A (bkW y a b n la L) s.heap.size = A at hD ⊢
  have hA : ∀ q : Nat, s.heap.size ≤ q → A q := fun q h => by rw [← hAe]; exact Or.inr h
  have hS : va_S A s.heap s.heap [] := va_S.rf
  have hP : va_P G vwCl (bkW y a b n la L) s.heap := hP
  have hl := lv_entry ([.ref (la i 0)]) (n := 1) (Nat.le_of_ble_eq_true rfl)
  rw [lg_entry_eq]
  generalize (lg_sl ([.ref (la i 0)]) ++ List.replicate (1 - (lg_sl ([.ref (la i 0)])).length) Slot.unset).toArray = ls at hl ⊢
  have hin0 : ∀ w ∈ wsX00, w ∈ wsX0_payPart := by decide +kernel
  have hl : lv_has ls 1 [(0, .ref (la i 0))] := hl
  refine lv_aload_n hx hb dX0_payPart_0 rfl (lv_at hl 0 rfl) ?_
  refine lnG (i := i) (val := .int (L i 0 7)) hx hb hts hin0 hown hK (bk_ln hP hi) 7 (by decide) (hts (.fieldLink RX0 35 "FundBook$Loan" "paidParts" "I") (by decide +kernel)) rfl dX0_payPart_1 ?_
  refine lv_topE (z := nI pq) (hp) ?_
  refine lv_bipush (v := 6) hx hb dX0_payPart_4 (by decide) ?_
  refine lv_icmp_ge (tgt := 19) hx hb dX0_payPart_6 (by decide) (fun c_6 => ?_) (fun c_6 => ?_)
  · have h6 : ¬ pq < 6 := fun q => nI_ge q (by decide) c_6
    exact W.vret hx hb hr (fun t ht hW => ⟨⟨(), rfl, trivial, by rw [ht]; rw [bPP, if_neg h6]; exact hP, by rw [bPP, if_neg h6]; exact hD⟩, hS.F ht⟩) hS.2.2 dX0_payPart_19
  · have h6 : pq < 6 := n6lt c_6 (by omega)
    refine lv_aload_n hx hb dX0_payPart_9 rfl (lv_at hl 0 rfl) ?_
    refine lv_aload_n hx hb dX0_payPart_10 rfl (lv_at hl 0 rfl) ?_
    refine lnG (i := i) (val := .int (L i 0 7)) hx hb hts hin0 hown hK (bk_ln hP hi) 7 (by decide) (hts (.fieldLink RX0 35 "FundBook$Loan" "paidParts" "I") (by decide +kernel)) rfl dX0_payPart_11 ?_
    refine lv_topE (z := nI pq) (hp) ?_
    refine lv_iconst (v := 1) hx hb dX0_payPart_14 (by decide) ?_
    refine lv_iadd hx hb dX0_payPart_15 ?_
    refine lv_topE (z := nI (pq + 1)) (nI_1 pq) ?_
    refine lnS (i := i) (x := nI (pq + 1)) hx hb hts hin0 hown hK hP hD hS hi (hts (.fieldLink RX0 35 "FundBook$Loan" "paidParts" "I") (by decide +kernel)) dX0_payPart_16 (fun H locs hP hD hS => ?_)
    exact W.vret hx hb hr (fun t ht hW => ⟨⟨(), rfl, trivial, by rw [ht]; rw [bPP, if_pos h6]; exact hP, by rw [bPP, if_pos h6]; exact hD⟩, hS.F ht⟩) hS.2.2 dX0_payPart_19
set_option maxHeartbeats 4000000 in
set_option maxRecDepth 100000 in
theorem c_X0_settle (l : Launch) (G : va_G) (y : Nat → ClassId) (a : Nat → Nat) (b : MS) (n : Nat) (la : Nat → Nat → Nat) (L : LNS) (sz : Nat) (i : Nat) (hi : i < n) (pq : Nat) (hp : L i 0 7 = nI pq) (hp6 : pq ≤ 6) : Met l yX0_settle wsX0_settle ({ frames := 0, cells := 0, slots := 0, locals := 0 }) (mP G y [.ref (la i 0)] (bkW y a b n la L) sz) (mQ G (fun _ : Unit => none) (fun _ => True) (fun _ => bkW y a b n la (u3 L i (nI 6))) (va_A (bkW y a b n la L) sz)) 0 0 (va_A (bkW y a b n la L) sz) := by
  refine Met.ofW (cc := cX0_settle) (maxL := 1) (ret := none) (by decide) rfl ?_
  intro p e s m args below meth c s₁ B hml hv
  obtain ⟨rfl, hsz, hP, hK, hD0⟩ := hv
  have hx := B.exec
  have hb := B.bytes
  have hr := B.returns
  have hts := atoms_spec (ws := wsX0_settle) B.pre
  have hown : s.vm.findClass RX0 = some m.cls := findClass_of_methodNamed B.named
  have hlocks := B.notSynchronized
  subst hsz
  have hD := hD0.self (sz := s.heap.size)
  generalize hAe : va_A (bkW y a b n la L) s.heap.size = A at hD ⊢
  have hA : ∀ q : Nat, s.heap.size ≤ q → A q := fun q h => by rw [← hAe]; exact Or.inr h
  have hS : va_S A s.heap s.heap [] := va_S.rf
  have hP : va_P G vwCl (bkW y a b n la L) s.heap := hP
  have hl := lv_entry ([.ref (la i 0)]) (n := 1) (Nat.le_of_ble_eq_true rfl)
  rw [lg_entry_eq]
  generalize (lg_sl ([.ref (la i 0)]) ++ List.replicate (1 - (lg_sl ([.ref (la i 0)])).length) Slot.unset).toArray = ls at hl ⊢
  have hin0 : ∀ w ∈ wsX00, w ∈ wsX0_settle := by decide +kernel
  have hl : lv_has ls 1 [(0, .ref (la i 0))] := hl
  refine lv_aload_n hx hb dX0_settle_0 rfl (lv_at hl 0 rfl) ?_
  refine lv_bipush (v := 6) hx hb dX0_settle_1 (by decide) ?_
  refine lnS (i := i) (x := 6) hx hb hts hin0 hown hK hP hD hS hi (hts (.fieldLink RX0 35 "FundBook$Loan" "paidParts" "I") (by decide +kernel)) dX0_settle_3 (fun H locs hP hD hS => ?_)
  exact W.vret hx hb hr (fun t ht hW => ⟨⟨(), rfl, trivial, by rw [ht]; exact hP, by exact hD⟩, hS.F ht⟩) hS.2.2 dX0_settle_6
set_option maxHeartbeats 4000000 in
set_option maxRecDepth 100000 in
theorem c_X1_averageRate (l : Launch) (G : va_G) (y : Nat → ClassId) (a : Nat → Nat) (b : MS)  : Met l yX1_averageRate wsX1_averageRate ({ frames := 0, cells := 0, slots := 0, locals := 0 }) (rP G y [.ref (a 8)] (rpW y a b)) (QcV (.int (bAvg b))) 0 0 (fun _ => False) := by
  refine Met.ofW (cc := cX1_averageRate) (maxL := 6) (ret := (some .int)) (by decide) rfl ?_
  intro p e s m args below meth c s₁ B hml hv
  obtain ⟨rfl, hP, hK⟩ := hv
  have hx := B.exec
  have hb := B.bytes
  have hr := B.returns
  have hts := atoms_spec (ws := wsX1_averageRate) B.pre
  have hown : s.vm.findClass RX1 = some m.cls := findClass_of_methodNamed B.named
  have hlocks := B.notSynchronized
  have hl := lv_entry ([.ref (a 8)]) (n := 6) (Nat.le_of_ble_eq_true rfl)
  rw [lg_entry_eq]
  generalize (lg_sl ([.ref (a 8)]) ++ List.replicate (6 - (lg_sl ([.ref (a 8)])).length) Slot.unset).toArray = ls at hl ⊢
  have hin1 : ∀ w ∈ wsX10, w ∈ wsX1_averageRate := by decide +kernel
  have hl : lv_has ls 6 [(0, .ref (a 8))] := hl
  refine lv_lconst (v := 0) hx hb dX1_averageRate_0 (by decide) ?_
  refine lv_lstore_n (lv' := [(1, .long 0), (0, .ref (a 8))]) hx hb dX1_averageRate_1 rfl hl (by decide) rfl (fun ls hl => ?_)
  refine lv_lconst (v := 0) hx hb dX1_averageRate_2 (by decide) ?_
  refine lv_lstore_n (lv' := [(3, .long 0), (1, .long 0), (0, .ref (a 8))]) hx hb dX1_averageRate_3 rfl hl (by decide) rfl (fun ls hl => ?_)
  refine lv_iconst (v := 0) hx hb dX1_averageRate_4 (by decide) ?_
  refine lv_istore (lv' := [(5, .int 0), (3, .long 0), (1, .long 0), (0, .ref (a 8))]) hx hb dX1_averageRate_5 hl (by decide) rfl (fun ls hl => ?_)
  refine loopW (LV := fun k => [(0, .ref (a 8)), (1, .long (S64 (bAl b) k)), (3, .long (S64 (bWt b) k)), (5, .int (nI k))]) 6 (lv_sub hl [3, 2, 1, 0] rfl) (fun k ls hk_k hl ih_k => ?_) (fun ls hl => ?_)
  · have hl : lv_has ls 6 [(0, .ref (a 8)), (1, .long (S64 (bAl b) k)), (3, .long (S64 (bWt b) k)), (5, .int (nI k))] := hl
    refine lv_iload hx hb dX1_averageRate_7 (lv_at hl 3 rfl) ?_
    refine lv_bipush (v := 6) hx hb dX1_averageRate_9 (by decide) ?_
    refine lv_icmp_ge (tgt := 51) hx hb dX1_averageRate_11 (by decide) (fun c_11 => absurd c_11 (nI_ge hk_k (by decide))) (fun c_11 => ?_)
    refine lv_lload_n hx hb dX1_averageRate_14 rfl (lv_at hl 1 rfl) ?_
    refine lv_aload_n hx hb dX1_averageRate_15 rfl (lv_at hl 0 rfl) ?_
    refine rpG (val := .ref (a 14)) hx hb hts hin1 hown hK hP 0 (by decide) (hts (.fieldLink RX1 9 "FundBook$Replica" "amounts" "[I") (by decide +kernel)) rfl dX1_averageRate_16 ?_
    refine lv_iload hx hb dX1_averageRate_19 (lv_at hl 3 rfl) ?_
    refine ldI (f := b 14) hx hb hK hP 1 rfl k rfl (by omega) (by decide) dX1_averageRate_21 ?_
    refine lv_i2l hx hb dX1_averageRate_22 rfl ?_
    refine lv_ladd hx hb dX1_averageRate_23 ?_
    refine lv_topEl (z := S64 (bAl b) (k + 1)) (rfl) ?_
    refine lv_lstore_n (lv' := [(1, .long (S64 (bAl b) (k + 1))), (0, .ref (a 8)), (3, .long (S64 (bWt b) k)), (5, .int (nI k))]) hx hb dX1_averageRate_24 rfl hl (by decide) rfl (fun ls hl => ?_)
    refine lv_lload_n hx hb dX1_averageRate_25 rfl (lv_at hl 2 rfl) ?_
    refine lv_aload_n hx hb dX1_averageRate_26 rfl (lv_at hl 1 rfl) ?_
    refine rpG (val := .ref (a 14)) hx hb hts hin1 hown hK hP 0 (by decide) (hts (.fieldLink RX1 9 "FundBook$Replica" "amounts" "[I") (by decide +kernel)) rfl dX1_averageRate_27 ?_
    refine lv_iload hx hb dX1_averageRate_30 (lv_at hl 3 rfl) ?_
    refine ldI (f := b 14) hx hb hK hP 1 rfl k rfl (by omega) (by decide) dX1_averageRate_32 ?_
    refine lv_i2l hx hb dX1_averageRate_33 rfl ?_
    refine lv_aload_n hx hb dX1_averageRate_34 rfl (lv_at hl 1 rfl) ?_
    refine rpG (val := .ref (a 15)) hx hb hts hin1 hown hK hP 1 (by decide) (hts (.fieldLink RX1 15 "FundBook$Replica" "rates" "[I") (by decide +kernel)) rfl dX1_averageRate_35 ?_
    refine lv_iload hx hb dX1_averageRate_38 (lv_at hl 3 rfl) ?_
    refine ldI (f := b 15) hx hb hK hP 2 rfl k rfl (by omega) (by decide) dX1_averageRate_40 ?_
    refine lv_i2l hx hb dX1_averageRate_41 rfl ?_
    refine lv_lmul hx hb dX1_averageRate_42 ?_
    refine lv_ladd hx hb dX1_averageRate_43 ?_
    refine lv_topEl (z := S64 (bWt b) (k + 1)) (rfl) ?_
    refine lv_lstore_n (lv' := [(3, .long (S64 (bWt b) (k + 1))), (1, .long (S64 (bAl b) (k + 1))), (0, .ref (a 8)), (5, .int (nI k))]) hx hb dX1_averageRate_44 rfl hl (by decide) rfl (fun ls hl => ?_)
    refine lv_iinc (v := (nI (k + 1))) (lv' := [(5, .int (nI (k + 1))), (3, .long (S64 (bWt b) (k + 1))), (1, .long (S64 (bAl b) (k + 1))), (0, .ref (a 8))]) hx hb dX1_averageRate_45 hl (k := 3) rfl iinc1 (by decide) rfl (fun ls hl => ?_)
    refine lv_goto (tgt := 7) hx hb dX1_averageRate_48 (by decide) ?_
    exact ih_k ls (lv_sub hl [3, 2, 1, 0] rfl)
  · have hl : lv_has ls 6 [(0, .ref (a 8)), (1, .long (S64 (bAl b) 6)), (3, .long (S64 (bWt b) 6)), (5, .int (nI 6))] := hl
    refine lv_iload hx hb dX1_averageRate_7 (lv_at hl 3 rfl) ?_
    refine lv_bipush (v := 6) hx hb dX1_averageRate_9 (by decide) ?_
    refine lv_icmp_ge (tgt := 51) hx hb dX1_averageRate_11 (by decide) (fun c_11 => ?_) (fun c_11 => absurd (nI_le (Nat.le_refl 6) (by decide)) c_11)
    refine lv_lload_n hx hb dX1_averageRate_51 rfl (lv_at hl 1 rfl) ?_
    refine lv_lconst (v := 0) hx hb dX1_averageRate_52 (by decide) ?_
    refine W.lcmp hx hb dX1_averageRate_53 ?_
    refine lv_if_le (tgt := 64) hx hb dX1_averageRate_54 (by decide) (fun c_54 => ?_) (fun c_54 => ?_)
    · refine lv_iconst (v := 0) hx hb dX1_averageRate_64 (by decide) ?_
      exact W.iret (v := 0) hx hb hr (fun t ht hW => ⟨congrArg (fun z => Outcome.returned (some (.int z))) (by unfold bAvg; exact (if_pos c_54).symm), ht⟩) t_nil dX1_averageRate_65
    · refine lv_lload_n hx hb dX1_averageRate_57 rfl (lv_at hl 2 rfl) ?_
      refine lv_lload_n hx hb dX1_averageRate_58 rfl (lv_at hl 1 rfl) ?_
      refine lv_ldiv hx hb dX1_averageRate_59 (lcmp_ne (fun q => c_54 (by rw [q]; decide))) ?_
      refine lv_l2i hx hb dX1_averageRate_60 rfl ?_
      refine lv_goto (tgt := 65) hx hb dX1_averageRate_61 (by decide) ?_
      exact W.iret (v := (S64 (bWt b) 6 / S64 (bAl b) 6).toInt32) hx hb hr (fun t ht hW => ⟨congrArg (fun z => Outcome.returned (some (.int z))) (by unfold bAvg; exact (if_neg c_54).symm), ht⟩) t_nil dX1_averageRate_65
set_option maxHeartbeats 4000000 in
set_option maxRecDepth 100000 in
theorem c_X1_lay (l : Launch) (G : va_G) (y : Nat → ClassId) (a : Nat → Nat) (b : MS) (n : Nat) (la : Nat → Nat → Nat) (L : LNS) (sz : Nat) (k : Nat) (hk : k < 6) (am rt : Int32) : Met l yX1_lay wsX1_lay ({ frames := 0, cells := 0, slots := 0, locals := 0 }) (mP G y [.ref (a 8), .int (nI k), .int am, .int rt] (bkW y a b n la L) sz) (mQ G (fun _ : Unit => none) (fun _ => True) (fun _ => bkW y a (bLay b k am rt) n la L) (va_A (bkW y a b n la L) sz)) 0 0 (va_A (bkW y a b n la L) sz) := by
  refine Met.ofW (cc := cX1_lay) (maxL := 4) (ret := none) (by decide) rfl ?_
  intro p e s m args below meth c s₁ B hml hv
  obtain ⟨rfl, hsz, hP, hK, hD0⟩ := hv
  have hx := B.exec
  have hb := B.bytes
  have hr := B.returns
  have hts := atoms_spec (ws := wsX1_lay) B.pre
  have hown : s.vm.findClass RX1 = some m.cls := findClass_of_methodNamed B.named
  have hlocks := B.notSynchronized
  subst hsz
  have hD := hD0.self (sz := s.heap.size)
  generalize hAe : va_A (bkW y a b n la L) s.heap.size = A at hD ⊢
  have hA : ∀ q : Nat, s.heap.size ≤ q → A q := fun q h => by rw [← hAe]; exact Or.inr h
  have hS : va_S A s.heap s.heap [] := va_S.rf
  have hP : va_P G vwCl (bkW y a b n la L) s.heap := hP
  have hl := lv_entry ([.ref (a 8), .int (nI k), .int am, .int rt]) (n := 4) (Nat.le_of_ble_eq_true rfl)
  rw [lg_entry_eq]
  generalize (lg_sl ([.ref (a 8), .int (nI k), .int am, .int rt]) ++ List.replicate (4 - (lg_sl ([.ref (a 8), .int (nI k), .int am, .int rt])).length) Slot.unset).toArray = ls at hl ⊢
  have hin1 : ∀ w ∈ wsX10, w ∈ wsX1_lay := by decide +kernel
  have hl : lv_has ls 4 [(0, .ref (a 8)), (1, .int (nI k)), (2, .int am), (3, .int rt)] := hl
  refine lv_iload_n hx hb dX1_lay_0 rfl (lv_at hl 1 rfl) ?_
  refine lv_if_lt (tgt := 24) hx hb dX1_lay_1 (by decide) (fun c_1 => absurd c_1 (nI_pos (by omega))) (fun c_1 => ?_)
  refine lv_iload_n hx hb dX1_lay_4 rfl (lv_at hl 1 rfl) ?_
  refine lv_bipush (v := 6) hx hb dX1_lay_5 (by decide) ?_
  refine lv_icmp_ge (tgt := 24) hx hb dX1_lay_7 (by decide) (fun c_7 => absurd c_7 (nI_ge hk (by decide))) (fun c_7 => ?_)
  refine lv_aload_n hx hb dX1_lay_10 rfl (lv_at hl 0 rfl) ?_
  refine rpG (val := .ref (a 14)) hx hb hts hin1 hown hK (bk_rp hP) 0 (by decide) (hts (.fieldLink RX1 9 "FundBook$Replica" "amounts" "[I") (by decide +kernel)) rfl dX1_lay_11 ?_
  refine lv_iload_n hx hb dX1_lay_14 rfl (lv_at hl 1 rfl) ?_
  refine lv_iload_n hx hb dX1_lay_15 rfl (lv_at hl 2 rfl) ?_
  refine stI (f := b 14) (ws1 := bkW y a (u2 b 14 k am) n la L) hx hb hK hP hD hS 5 bg_14 k rfl (by omega) (by decide) bs_14 dX1_lay_16 (fun H locs hP hD hS => ?_)
  refine lv_aload_n hx hb dX1_lay_17 rfl (lv_at hl 0 rfl) ?_
  refine rpG (val := .ref (a 15)) hx hb hts hin1 hown hK (bk_rp hP) 1 (by decide) (hts (.fieldLink RX1 15 "FundBook$Replica" "rates" "[I") (by decide +kernel)) rfl dX1_lay_18 ?_
  refine lv_iload_n hx hb dX1_lay_21 rfl (lv_at hl 1 rfl) ?_
  refine lv_iload_n hx hb dX1_lay_22 rfl (lv_at hl 3 rfl) ?_
  refine stI (f := (u2 b 14 k am) 15) (ws1 := bkW y a (u2 (u2 b 14 k am) 15 k rt) n la L) hx hb hK hP hD hS 6 bg_15 k rfl (by omega) (by decide) bs_15 dX1_lay_23 (fun H locs hP hD hS => ?_)
  exact W.vret hx hb hr (fun t ht hW => ⟨⟨(), rfl, trivial, by rw [ht]; exact hP, by exact hD⟩, hS.F ht⟩) hS.2.2 dX1_lay_24
set_option maxHeartbeats 4000000 in
set_option maxRecDepth 100000 in
theorem c_X1_layAll (l : Launch) (G : va_G) (y : Nat → ClassId) (a : Nat → Nat) (b : MS) (n : Nat) (la : Nat → Nat → Nat) (L : LNS) (sz : Nat) (am rt : Int32) : Met l yX1_layAll wsX1_layAll ({ frames := 1, cells := 0, slots := 0, locals := 23 }) (mP G y [.ref (a 8), .int am, .int rt] (bkW y a b n la L) sz) (mQ G (fun _ : Unit => none) (fun _ => True) (fun _ => bkW y a (bLA b am rt 6) n la L) (va_A (bkW y a b n la L) sz)) 0 0 (va_A (bkW y a b n la L) sz) := by
  refine Met.ofW (cc := cX1_layAll) (maxL := 4) (ret := none) (by decide) rfl ?_
  intro p e s m args below meth c s₁ B hml hv
  obtain ⟨rfl, hsz, hP, hK, hD0⟩ := hv
  have hx := B.exec
  have hb := B.bytes
  have hr := B.returns
  have hts := atoms_spec (ws := wsX1_layAll) B.pre
  have hown : s.vm.findClass RX1 = some m.cls := findClass_of_methodNamed B.named
  have hlocks := B.notSynchronized
  subst hsz
  have hD := hD0.self (sz := s.heap.size)
  generalize hAe : va_A (bkW y a b n la L) s.heap.size = A at hD ⊢
  have hA : ∀ q : Nat, s.heap.size ≤ q → A q := fun q h => by rw [← hAe]; exact Or.inr h
  have hS : va_S A s.heap s.heap [] := va_S.rf
  have hP : va_P G vwCl (bkW y a b n la L) s.heap := hP
  have hl := lv_entry ([.ref (a 8), .int am, .int rt]) (n := 4) (Nat.le_of_ble_eq_true rfl)
  rw [lg_entry_eq]
  generalize (lg_sl ([.ref (a 8), .int am, .int rt]) ++ List.replicate (4 - (lg_sl ([.ref (a 8), .int am, .int rt])).length) Slot.unset).toArray = ls at hl ⊢
  have hl : lv_has ls 4 [(0, .ref (a 8)), (1, .int am), (2, .int rt)] := hl
  refine lv_iconst (v := 0) hx hb dX1_layAll_0 (by decide) ?_
  refine lv_istore_n (lv' := [(3, .int 0), (0, .ref (a 8)), (1, .int am), (2, .int rt)]) hx hb dX1_layAll_1 rfl hl (by decide) rfl (fun ls hl => ?_)
  refine loopM (LV := fun k => [(0, .ref (a 8)), (1, .int am), (2, .int rt), (3, .int (nI k))]) (WS := fun k => bkW y a (bLA b am rt k) n la L) 6 hP hD hS (lv_sub hl [1, 2, 3, 0] rfl) (fun k H locs ls hk_k hP hD hS hl ih_k => ?_) (fun H locs ls hP hD hS hl => ?_)
  · have hl : lv_has ls 4 [(0, .ref (a 8)), (1, .int am), (2, .int rt), (3, .int (nI k))] := hl
    have hP : va_P G vwCl (bkW y a (bLA b am rt k) n la L) H := hP
    have hD : va_D A (bkW y a (bLA b am rt k) n la L) := hD
    refine lv_iload_n hx hb dX1_layAll_2 rfl (lv_at hl 3 rfl) ?_
    refine lv_bipush (v := 6) hx hb dX1_layAll_3 (by decide) ?_
    refine lv_icmp_ge (tgt := 21) hx hb dX1_layAll_5 (by decide) (fun c_5 => absurd c_5 (nI_ge hk_k (by decide))) (fun c_5 => ?_)
    refine lv_aload_n hx hb dX1_layAll_8 rfl (lv_at hl 0 rfl) ?_
    refine lv_iload_n hx hb dX1_layAll_9 rfl (lv_at hl 3 rfl) ?_
    refine lv_iload_n hx hb dX1_layAll_10 rfl (lv_at hl 1 rfl) ?_
    refine lv_iload_n hx hb dX1_layAll_11 rfl (lv_at hl 2 rfl) ?_
    refine caM (va_runV (As := [.int (nI k), .int am, .int rt]) (rest := []) ⟨hx, hb, hml, hown, hts⟩ (c_X1_lay l G y a (bLA b am rt k) n la L H.size k hk_k am rt) (cwV 3 hts gX1_layAll_X1_lay rfl rfl rfl (by decide +kernel) ⟨Nat.le_of_ble_eq_true rfl, Nat.le_of_ble_eq_true rfl⟩) ⟨mP_bl, va_recv hK.1 hP (ci := 1) (q0 := 4) rfl rfl, fun U hU hW => ⟨rfl, by rw [hU], by rw [hU]; exact hP, Kb.moved hW hK, hD.weaken (fun _ _ _ _ => trivial)⟩⟩ rfl rfl hl.1 rfl (lv_room (Nat.le_of_ble_eq_true rfl)) dX1_layAll_12 ⟨Nat.le_of_ble_eq_true rfl, Nat.le_of_ble_eq_true rfl⟩) hS (freeW hD hS hA) (freeW hD hS hA) (fun _ H locs _ hP hD _ _ hS => ?_)
    refine W.eq (g2 := F0 m 15 ls []) rfl ?_
    have hP : va_P G vwCl (bkW y a (bLay (bLA b am rt k) k am rt) n la L) H := hP
    have hD : va_D A (bkW y a (bLay (bLA b am rt k) k am rt) n la L) := hD
    refine lv_iinc (v := (nI (k + 1))) (lv' := [(3, .int (nI (k + 1))), (0, .ref (a 8)), (1, .int am), (2, .int rt)]) hx hb dX1_layAll_15 hl (k := 3) rfl iinc1 (by decide) rfl (fun ls hl => ?_)
    refine lv_goto (tgt := 2) hx hb dX1_layAll_18 (by decide) ?_
    exact ih_k _ _ ls hP hD hS (lv_sub hl [1, 2, 3, 0] rfl)
  · have hl : lv_has ls 4 [(0, .ref (a 8)), (1, .int am), (2, .int rt), (3, .int (nI 6))] := hl
    have hP : va_P G vwCl (bkW y a (bLA b am rt 6) n la L) H := hP
    have hD : va_D A (bkW y a (bLA b am rt 6) n la L) := hD
    refine lv_iload_n hx hb dX1_layAll_2 rfl (lv_at hl 3 rfl) ?_
    refine lv_bipush (v := 6) hx hb dX1_layAll_3 (by decide) ?_
    refine lv_icmp_ge (tgt := 21) hx hb dX1_layAll_5 (by decide) (fun c_5 => ?_) (fun c_5 => absurd (nI_le (Nat.le_refl 6) (by decide)) c_5)
    exact W.vret hx hb hr (fun t ht hW => ⟨⟨(), rfl, trivial, by rw [ht]; exact hP, by exact hD⟩, hS.F ht⟩) hS.2.2 dX1_layAll_21
set_option maxHeartbeats 4000000 in
set_option maxRecDepth 100000 in
theorem c_X2_coreOf (l : Launch) (G : va_G) (y : Nat → ClassId) (a : Nat → Nat) (b : MS) (n : Nat) (la : Nat → Nat → Nat) (L : LNS) (x : Int64) : Met l yX2_coreOf wsX2_coreOf ({ frames := 0, cells := 0, slots := 0, locals := 0 }) (rP G y [.ref (a 13), .long x] (bkW y a b n la L)) (QcV (.int (bCo b x))) 0 0 (fun _ => False) := by
  refine Met.ofW (cc := cX2_coreOf) (maxL := 3) (ret := (some .int)) (by decide) rfl ?_
  intro p e s m args below meth c s₁ B hml hv
  obtain ⟨rfl, hP, hK⟩ := hv
  have hx := B.exec
  have hb := B.bytes
  have hr := B.returns
  have hts := atoms_spec (ws := wsX2_coreOf) B.pre
  have hown : s.vm.findClass RX2 = some m.cls := findClass_of_methodNamed B.named
  have hlocks := B.notSynchronized
  have hl := lv_entry ([.ref (a 13), .long x]) (n := 3) (Nat.le_of_ble_eq_true rfl)
  rw [lg_entry_eq]
  generalize (lg_sl ([.ref (a 13), .long x]) ++ List.replicate (3 - (lg_sl ([.ref (a 13), .long x])).length) Slot.unset).toArray = ls at hl ⊢
  have hin2 : ∀ w ∈ wsX20, w ∈ wsX2_coreOf := by decide +kernel
  have hl : lv_has ls 3 [(0, .ref (a 13)), (1, .long x)] := hl
  refine lv_lload_n hx hb dX2_coreOf_0 rfl (lv_at hl 1 rfl) ?_
  refine lv_aload_n hx hb dX2_coreOf_1 rfl (lv_at hl 0 rfl) ?_
  refine bkG (b := b) (val := .int (b 13 3)) hx hb hts hin2 hown hK hP 3 (by decide) (hts (.fieldLink RX2 20 "FundBook" "coreShare" "I") (by decide +kernel)) rfl dX2_coreOf_2 ?_
  refine lv_i2l hx hb dX2_coreOf_5 rfl ?_
  refine lv_lmul hx hb dX2_coreOf_6 ?_
  refine lv_ldc2 (v := 100) hx hb hown (hts (.constantLong RX2 189 100) (by decide +kernel)) dX2_coreOf_7 ?_
  refine lv_ldiv hx hb dX2_coreOf_10 (by decide) ?_
  refine lv_l2i hx hb dX2_coreOf_11 rfl ?_
  exact W.iret (v := ((x * (b 13 3).toInt64) / 100).toInt32) hx hb hr (fun t ht hW => ⟨congrArg (fun z => Outcome.returned (some (.int z))) (rfl), ht⟩) t_nil dX2_coreOf_12
set_option maxHeartbeats 4000000 in
set_option maxRecDepth 100000 in
theorem c_X2_trancheAmount (l : Launch) (G : va_G) (y : Nat → ClassId) (a : Nat → Nat) (b : MS) (n : Nat) (la : Nat → Nat → Nat) (L : LNS)  : Met l yX2_trancheAmount wsX2_trancheAmount ({ frames := 1, cells := 0, slots := 0, locals := 22 }) (rP G y [.ref (a 13)] (bkW y a b n la L)) (QcV (.int (bTA b))) 0 0 (fun _ => False) := by
  refine Met.ofW (cc := cX2_trancheAmount) (maxL := 7) (ret := (some .int)) (by decide) rfl ?_
  intro p e s m args below meth c s₁ B hml hv
  obtain ⟨rfl, hP, hK⟩ := hv
  have hx := B.exec
  have hb := B.bytes
  have hr := B.returns
  have hts := atoms_spec (ws := wsX2_trancheAmount) B.pre
  have hown : s.vm.findClass RX2 = some m.cls := findClass_of_methodNamed B.named
  have hlocks := B.notSynchronized
  have hl := lv_entry ([.ref (a 13)]) (n := 7) (Nat.le_of_ble_eq_true rfl)
  rw [lg_entry_eq]
  generalize (lg_sl ([.ref (a 13)]) ++ List.replicate (7 - (lg_sl ([.ref (a 13)])).length) Slot.unset).toArray = ls at hl ⊢
  have hin2 : ∀ w ∈ wsX20, w ∈ wsX2_trancheAmount := by decide +kernel
  have hl : lv_has ls 7 [(0, .ref (a 13))] := hl
  refine lv_lconst (v := 0) hx hb dX2_trancheAmount_0 (by decide) ?_
  refine lv_lstore_n (lv' := [(1, .long 0), (0, .ref (a 13))]) hx hb dX2_trancheAmount_1 rfl hl (by decide) rfl (fun ls hl => ?_)
  refine lv_aload_n hx hb dX2_trancheAmount_2 rfl (lv_at hl 1 rfl) ?_
  refine bkG (b := b) (val := .ref (a 7)) hx hb hts hin2 hown hK hP 7 (by decide) (hts (.fieldLink RX2 35 "FundBook" "balances" "[I") (by decide +kernel)) rfl dX2_trancheAmount_3 ?_
  refine lv_astore_n (lv' := [(3, .ref (a 7)), (1, .long 0), (0, .ref (a 13))]) hx hb dX2_trancheAmount_6 rfl hl (by decide) rfl (fun ls hl => ?_)
  refine lv_aload_n hx hb dX2_trancheAmount_7 rfl (lv_at hl 0 rfl) ?_
  refine va_alen (v := 3) hx hb hK.1 hP 3 0 bg_7 rfl rfl dX2_trancheAmount_8 ?_
  refine lv_istore (lv' := [(4, .int 3), (3, .ref (a 7)), (1, .long 0), (0, .ref (a 13))]) hx hb dX2_trancheAmount_9 hl (by decide) rfl (fun ls hl => ?_)
  refine lv_iconst (v := 0) hx hb dX2_trancheAmount_11 (by decide) ?_
  refine lv_istore (lv' := [(5, .int 0), (4, .int 3), (3, .ref (a 7)), (1, .long 0), (0, .ref (a 13))]) hx hb dX2_trancheAmount_12 hl (by decide) rfl (fun ls hl => ?_)
  refine loopW (LV := fun k => [(0, .ref (a 13)), (3, .ref (a 7)), (4, .int 3), (1, .long (S64 (fun j => (b 7 j).toInt64) k)), (5, .int (nI k))]) 3 (lv_sub hl [4, 2, 1, 3, 0] rfl) (fun k ls hk_k hl ih_k => ?_) (fun ls hl => ?_)
  · have hl : lv_has ls 7 [(0, .ref (a 13)), (3, .ref (a 7)), (4, .int 3), (1, .long (S64 (fun j => (b 7 j).toInt64) k)), (5, .int (nI k))] := hl
    refine lv_iload hx hb dX2_trancheAmount_14 (lv_at hl 4 rfl) ?_
    refine lv_iload hx hb dX2_trancheAmount_16 (lv_at hl 2 rfl) ?_
    refine lv_icmp_ge (tgt := 39) hx hb dX2_trancheAmount_18 (by decide) (fun c_18 => absurd c_18 (nI_ge hk_k (by decide))) (fun c_18 => ?_)
    refine lv_aload_n hx hb dX2_trancheAmount_21 rfl (lv_at hl 1 rfl) ?_
    refine lv_iload hx hb dX2_trancheAmount_22 (lv_at hl 4 rfl) ?_
    refine ldI (f := b 7) hx hb hK hP 3 bg_7 k rfl (by omega) (by decide) dX2_trancheAmount_24 ?_
    refine lv_istore (lv' := [(6, .int (b 7 k)), (0, .ref (a 13)), (3, .ref (a 7)), (4, .int 3), (1, .long (S64 (fun j => (b 7 j).toInt64) k)), (5, .int (nI k))]) hx hb dX2_trancheAmount_25 hl (by decide) rfl (fun ls hl => ?_)
    refine lv_lload_n hx hb dX2_trancheAmount_27 rfl (lv_at hl 4 rfl) ?_
    refine lv_iload hx hb dX2_trancheAmount_28 (lv_at hl 0 rfl) ?_
    refine lv_i2l hx hb dX2_trancheAmount_30 rfl ?_
    refine lv_ladd hx hb dX2_trancheAmount_31 ?_
    refine lv_topEl (z := S64 (fun j => (b 7 j).toInt64) (k + 1)) (rfl) ?_
    refine lv_lstore_n (lv' := [(1, .long (S64 (fun j => (b 7 j).toInt64) (k + 1))), (6, .int (b 7 k)), (0, .ref (a 13)), (3, .ref (a 7)), (4, .int 3), (5, .int (nI k))]) hx hb dX2_trancheAmount_32 rfl hl (by decide) rfl (fun ls hl => ?_)
    refine lv_iinc (v := (nI (k + 1))) (lv' := [(5, .int (nI (k + 1))), (1, .long (S64 (fun j => (b 7 j).toInt64) (k + 1))), (6, .int (b 7 k)), (0, .ref (a 13)), (3, .ref (a 7)), (4, .int 3)]) hx hb dX2_trancheAmount_33 hl (k := 5) rfl iinc1 (by decide) rfl (fun ls hl => ?_)
    refine lv_goto (tgt := 14) hx hb dX2_trancheAmount_36 (by decide) ?_
    exact ih_k ls (lv_sub hl [3, 4, 5, 1, 0] rfl)
  · have hl : lv_has ls 7 [(0, .ref (a 13)), (3, .ref (a 7)), (4, .int 3), (1, .long (S64 (fun j => (b 7 j).toInt64) 3)), (5, .int (nI 3))] := hl
    refine lv_iload hx hb dX2_trancheAmount_14 (lv_at hl 4 rfl) ?_
    refine lv_iload hx hb dX2_trancheAmount_16 (lv_at hl 2 rfl) ?_
    refine lv_icmp_ge (tgt := 39) hx hb dX2_trancheAmount_18 (by decide) (fun c_18 => ?_) (fun c_18 => absurd (nI_le (Nat.le_refl 3) (by decide)) c_18)
    refine lv_aload_n hx hb dX2_trancheAmount_39 rfl (lv_at hl 0 rfl) ?_
    refine lv_lload_n hx hb dX2_trancheAmount_40 rfl (lv_at hl 3 rfl) ?_
    refine caR (r := .int (bCo b (S64 (fun j => (b 7 j).toInt64) 3))) (va_runV (As := [.long (S64 (fun j => (b 7 j).toInt64) 3)]) (rest := []) ⟨hx, hb, hml, hown, hts⟩ (c_X2_coreOf l G y a b n la L _) (cwV 1 hts gX2_trancheAmount_X2_coreOf rfl rfl rfl (by decide +kernel) ⟨Nat.le_of_ble_eq_true rfl, Nat.le_of_ble_eq_true rfl⟩) ⟨rP_bl, va_recv hK.1 hP (ci := 2) (q0 := 0) rfl rfl, fun U hU hW => ⟨rfl, by rw [hU]; exact hP, Kb.moved hW hK⟩⟩ rfl rfl hl.1 rfl (lv_room (Nat.le_of_ble_eq_true rfl)) dX2_trancheAmount_41 ⟨Nat.le_of_ble_eq_true rfl, Nat.le_of_ble_eq_true rfl⟩) ?_
    refine lv_bipush (v := 6) hx hb dX2_trancheAmount_44 (by decide) ?_
    refine lv_idiv hx hb dX2_trancheAmount_46 (by decide) ?_
    exact W.iret (v := (bCo b (S64 (fun j => (b 7 j).toInt64) 3) / 6)) hx hb hr (fun t ht hW => ⟨congrArg (fun z => Outcome.returned (some (.int z))) (rfl), ht⟩) t_nil dX2_trancheAmount_47
set_option maxHeartbeats 4000000 in
set_option maxRecDepth 100000 in
theorem c_X2_paidForDeposits (l : Launch) (G : va_G) (y : Nat → ClassId) (a : Nat → Nat) (b : MS) (n : Nat) (la : Nat → Nat → Nat) (L : LNS) (x r : Int32) : Met l yX2_paidForDeposits wsX2_paidForDeposits ({ frames := 1, cells := 0, slots := 0, locals := 22 }) (rP G y [.ref (a 13), .int x, .int r] (bkW y a b n la L)) (QcV (.int (bPd b x r))) 0 0 (fun _ => False) := by
  refine Met.ofW (cc := cX2_paidForDeposits) (maxL := 5) (ret := (some .int)) (by decide) rfl ?_
  intro p e s m args below meth c s₁ B hml hv
  obtain ⟨rfl, hP, hK⟩ := hv
  have hx := B.exec
  have hb := B.bytes
  have hr := B.returns
  have hts := atoms_spec (ws := wsX2_paidForDeposits) B.pre
  have hown : s.vm.findClass RX2 = some m.cls := findClass_of_methodNamed B.named
  have hlocks := B.notSynchronized
  have hl := lv_entry ([.ref (a 13), .int x, .int r]) (n := 5) (Nat.le_of_ble_eq_true rfl)
  rw [lg_entry_eq]
  generalize (lg_sl ([.ref (a 13), .int x, .int r]) ++ List.replicate (5 - (lg_sl ([.ref (a 13), .int x, .int r])).length) Slot.unset).toArray = ls at hl ⊢
  have hin2 : ∀ w ∈ wsX20, w ∈ wsX2_paidForDeposits := by decide +kernel
  have hl : lv_has ls 5 [(0, .ref (a 13)), (1, .int x), (2, .int r)] := hl
  refine lv_aload_n hx hb dX2_paidForDeposits_0 rfl (lv_at hl 0 rfl) ?_
  refine lv_iload_n hx hb dX2_paidForDeposits_1 rfl (lv_at hl 1 rfl) ?_
  refine lv_i2l hx hb dX2_paidForDeposits_2 rfl ?_
  refine caR (r := .int (bCo b x.toInt64)) (va_runV (As := [.long x.toInt64]) (rest := []) ⟨hx, hb, hml, hown, hts⟩ (c_X2_coreOf l G y a b n la L _) (cwV 1 hts gX2_paidForDeposits_X2_coreOf rfl rfl rfl (by decide +kernel) ⟨Nat.le_of_ble_eq_true rfl, Nat.le_of_ble_eq_true rfl⟩) ⟨rP_bl, va_recv hK.1 hP (ci := 2) (q0 := 0) rfl rfl, fun U hU hW => ⟨rfl, by rw [hU]; exact hP, Kb.moved hW hK⟩⟩ rfl rfl hl.1 rfl (lv_room (Nat.le_of_ble_eq_true rfl)) dX2_paidForDeposits_3 ⟨Nat.le_of_ble_eq_true rfl, Nat.le_of_ble_eq_true rfl⟩) ?_
  refine lv_istore_n (lv' := [(3, .int (bCo b x.toInt64)), (0, .ref (a 13)), (1, .int x), (2, .int r)]) hx hb dX2_paidForDeposits_6 rfl hl (by decide) rfl (fun ls hl => ?_)
  refine lv_iload_n hx hb dX2_paidForDeposits_7 rfl (lv_at hl 2 rfl) ?_
  refine lv_iload_n hx hb dX2_paidForDeposits_8 rfl (lv_at hl 0 rfl) ?_
  refine lv_isub hx hb dX2_paidForDeposits_9 ?_
  refine lv_istore (lv' := [(4, .int (x - bCo b x.toInt64)), (3, .int (bCo b x.toInt64)), (0, .ref (a 13)), (1, .int x), (2, .int r)]) hx hb dX2_paidForDeposits_10 hl (by decide) rfl (fun ls hl => ?_)
  refine lv_iload_n hx hb dX2_paidForDeposits_12 rfl (lv_at hl 1 rfl) ?_
  refine lv_i2l hx hb dX2_paidForDeposits_13 rfl ?_
  refine lv_iload_n hx hb dX2_paidForDeposits_14 rfl (lv_at hl 4 rfl) ?_
  refine lv_i2l hx hb dX2_paidForDeposits_15 rfl ?_
  refine lv_lmul hx hb dX2_paidForDeposits_16 ?_
  refine lv_iload hx hb dX2_paidForDeposits_17 (lv_at hl 0 rfl) ?_
  refine lv_i2l hx hb dX2_paidForDeposits_19 rfl ?_
  refine lv_aload_n hx hb dX2_paidForDeposits_20 rfl (lv_at hl 2 rfl) ?_
  refine bkG (b := b) (val := .ref (a 0)) hx hb hts hin2 hown hK hP 0 (by decide) (hts (.fieldLink RX2 9 "FundBook" "curve" "[I") (by decide +kernel)) rfl dX2_paidForDeposits_21 ?_
  refine lv_iconst (v := 0) hx hb dX2_paidForDeposits_24 (by decide) ?_
  refine ldI (f := b 0) hx hb hK hP 1 bg_0 0 rfl (by decide) (by decide) dX2_paidForDeposits_25 ?_
  refine lv_i2l hx hb dX2_paidForDeposits_26 rfl ?_
  refine lv_lmul hx hb dX2_paidForDeposits_27 ?_
  refine lv_ladd hx hb dX2_paidForDeposits_28 ?_
  refine caR (r := .int (bPd b x r)) (va_runS (As := [.long (((bCo b x.toInt64).toInt64 * r.toInt64) + ((x - bCo b x.toInt64).toInt64 * (b 0 0).toInt64))]) (rest := []) ⟨hx, hb, hml, hown, hts⟩ (c_X2_forOneMonth l _) (va_cwS 1 hts gX2_paidForDeposits_X2_forOneMonth rfl rfl rfl (by decide +kernel) ⟨Nat.le_of_ble_eq_true rfl, Nat.le_of_ble_eq_true rfl⟩) ⟨nP_bl, fun _ _ _ => ⟨rfl, trivial⟩⟩ rfl rfl hl.1 rfl (lv_room (Nat.le_of_ble_eq_true rfl)) dX2_paidForDeposits_29 ⟨Nat.le_of_ble_eq_true rfl, Nat.le_of_ble_eq_true rfl⟩) ?_
  exact W.iret (v := bPd b x r) hx hb hr (fun t ht hW => ⟨congrArg (fun z => Outcome.returned (some (.int z))) (rfl), ht⟩) t_nil dX2_paidForDeposits_32
set_option maxHeartbeats 4000000 in
set_option maxRecDepth 100000 in
theorem c_X2_hasEnded (l : Launch) (G : va_G) (y : Nat → ClassId) (a : Nat → Nat) (b : MS) (n : Nat) (la : Nat → Nat → Nat) (L : LNS) (t : Nat) (ht : b 13 4 = nI t) (ht47 : t ≤ 47) (x : Int32) : Met l yX2_hasEnded wsX2_hasEnded ({ frames := 0, cells := 0, slots := 0, locals := 0 }) (rP G y [.ref (a 13), .int x] (bkW y a b n la L)) (QcV (.int (bEn t x))) 0 0 (fun _ => False) := by
  refine Met.ofW (cc := cX2_hasEnded) (maxL := 2) (ret := (some .boolean)) (by decide) rfl ?_
  intro p e s m args below meth c s₁ B hml hv
  obtain ⟨rfl, hP, hK⟩ := hv
  have hx := B.exec
  have hb := B.bytes
  have hr := B.returns
  have hts := atoms_spec (ws := wsX2_hasEnded) B.pre
  have hown : s.vm.findClass RX2 = some m.cls := findClass_of_methodNamed B.named
  have hlocks := B.notSynchronized
  have hl := lv_entry ([.ref (a 13), .int x]) (n := 2) (Nat.le_of_ble_eq_true rfl)
  rw [lg_entry_eq]
  generalize (lg_sl ([.ref (a 13), .int x]) ++ List.replicate (2 - (lg_sl ([.ref (a 13), .int x])).length) Slot.unset).toArray = ls at hl ⊢
  have hin2 : ∀ w ∈ wsX20, w ∈ wsX2_hasEnded := by decide +kernel
  have hl : lv_has ls 2 [(0, .ref (a 13)), (1, .int x)] := hl
  refine lv_iload_n hx hb dX2_hasEnded_0 rfl (lv_at hl 1 rfl) ?_
  refine lv_if_lt (tgt := 16) hx hb dX2_hasEnded_1 (by decide) (fun c_1 => ?_) (fun c_1 => ?_)
  · refine lv_iconst (v := 0) hx hb dX2_hasEnded_16 (by decide) ?_
    exact W.zret (v := 0) hx hb hr rfl (fun t ht hW => ⟨congrArg (fun z => Outcome.returned (some (.int z))) (by unfold bEn; exact ((if_pos c_1)).symm), ht⟩) t_nil dX2_hasEnded_17
  · refine lv_iload_n hx hb dX2_hasEnded_4 rfl (lv_at hl 1 rfl) ?_
    refine lv_aload_n hx hb dX2_hasEnded_5 rfl (lv_at hl 0 rfl) ?_
    refine bkG (b := b) (val := .int (b 13 4)) hx hb hts hin2 hown hK hP 4 (by decide) (hts (.fieldLink RX2 23 "FundBook" "now" "I") (by decide +kernel)) rfl dX2_hasEnded_6 ?_
    refine lv_topE (z := nI t) (ht) ?_
    refine lv_icmp_ge (tgt := 16) hx hb dX2_hasEnded_9 (by decide) (fun c_9 => ?_) (fun c_9 => ?_)
    · refine lv_iconst (v := 0) hx hb dX2_hasEnded_16 (by decide) ?_
      exact W.zret (v := 0) hx hb hr rfl (fun t ht hW => ⟨congrArg (fun z => Outcome.returned (some (.int z))) (by unfold bEn; exact ((if_neg c_1).trans ((if_pos c_9))).symm), ht⟩) t_nil dX2_hasEnded_17
    · refine lv_iconst (v := 1) hx hb dX2_hasEnded_12 (by decide) ?_
      refine lv_goto (tgt := 17) hx hb dX2_hasEnded_13 (by decide) ?_
      exact W.zret (v := 1) hx hb hr rfl (fun t ht hW => ⟨congrArg (fun z => Outcome.returned (some (.int z))) (by unfold bEn; exact ((if_neg c_1).trans ((if_neg c_9))).symm), ht⟩) t_nil dX2_hasEnded_17
set_option maxHeartbeats 4000000 in
set_option maxRecDepth 100000 in
theorem c_X2_findLoan (l : Launch) (G : va_G) (y : Nat → ClassId) (a : Nat → Nat) (b : MS) (n : Nat) (la : Nat → Nat → Nat) (L : LNS) (x : Int32) : Met l yX2_findLoan wsX2_findLoan ({ frames := 0, cells := 0, slots := 0, locals := 0 }) (rP G y [.ref (a 13), .int x] (bkW y a b n la L)) (QcV (va_rf (bFind n la x))) 0 0 (fun _ => False) := by
  refine Met.ofW (cc := cX2_findLoan) (maxL := 2) (ret := (some (.object "FundBook$Loan"))) (by decide) rfl ?_
  intro p e s m args below meth c s₁ B hml hv
  obtain ⟨rfl, hP, hK⟩ := hv
  have hx := B.exec
  have hb := B.bytes
  have hr := B.returns
  have hts := atoms_spec (ws := wsX2_findLoan) B.pre
  have hown : s.vm.findClass RX2 = some m.cls := findClass_of_methodNamed B.named
  have hlocks := B.notSynchronized
  have hl := lv_entry ([.ref (a 13), .int x]) (n := 2) (Nat.le_of_ble_eq_true rfl)
  rw [lg_entry_eq]
  generalize (lg_sl ([.ref (a 13), .int x]) ++ List.replicate (2 - (lg_sl ([.ref (a 13), .int x])).length) Slot.unset).toArray = ls at hl ⊢
  have hin2 : ∀ w ∈ wsX20, w ∈ wsX2_findLoan := by decide +kernel
  have hl : lv_has ls 2 [(0, .ref (a 13)), (1, .int x)] := hl
  refine lv_iload_n hx hb dX2_findLoan_0 rfl (lv_at hl 1 rfl) ?_
  refine lv_if_lt (tgt := 10) hx hb dX2_findLoan_1 (by decide) (fun c_1 => ?_) (fun c_1 => ?_)
  · refine lv_null hx hb dX2_findLoan_10 ?_
    refine lv_goto (tgt := 20) hx hb dX2_findLoan_11 (by decide) ?_
    have ev : bFind n la x = none := by unfold bFind; exact (if_pos c_1)
    exact W.aret (v := .null) hx hb hr (Or.inl ⟨_, rfl⟩) (Or.inl rfl) (fun t ht hW => ⟨by rw [ev]; rfl, ht⟩) t_nil dX2_findLoan_20
  · refine lv_iload_n hx hb dX2_findLoan_4 rfl (lv_at hl 1 rfl) ?_
    refine lv_bipush (v := 24) hx hb dX2_findLoan_5 (by decide) ?_
    refine lv_icmp_lt (tgt := 14) hx hb dX2_findLoan_7 (by decide) (fun c_7 => ?_) (fun c_7 => ?_)
    · have h24 : cn x < 24 := cl_lt (M := 24) c_1 (Int32.not_le.mpr c_7) (by decide)
      refine lv_aload_n hx hb dX2_findLoan_14 rfl (lv_at hl 0 rfl) ?_
      refine bkG (b := b) (val := .ref (a 5)) hx hb hts hin2 hown hK hP 5 (by decide) (hts (.fieldLink RX2 28 "FundBook" "loanRows" "[LFundBook$Loan;") (by decide +kernel)) rfl dX2_findLoan_15 ?_
      refine lv_iload_n hx hb dX2_findLoan_18 rfl (lv_at hl 1 rfl) ?_
      refine lv_topE (z := nI (cn x)) (cl_nI c_1) ?_
      refine ldQ (f := lrF n la) hx hb hK hP 2 bg_5 (cn x) rfl (by omega) (by decide) dX2_findLoan_19 ?_
      have ev : bFind n la x = lrF n la (cn x) := by unfold bFind; exact (if_neg c_1).trans ((if_pos c_7))
      exact W.aret (v := va_rf (lrF n la (cn x))) hx hb hr (Or.inl ⟨_, rfl⟩) (va_rf_or _) (fun t ht hW => ⟨by rw [ev], ht⟩) t_nil dX2_findLoan_20
    · refine lv_null hx hb dX2_findLoan_10 ?_
      refine lv_goto (tgt := 20) hx hb dX2_findLoan_11 (by decide) ?_
      have ev : bFind n la x = none := by unfold bFind; exact (if_neg c_1).trans ((if_neg c_7))
      exact W.aret (v := .null) hx hb hr (Or.inl ⟨_, rfl⟩) (Or.inl rfl) (fun t ht hW => ⟨by rw [ev]; rfl, ht⟩) t_nil dX2_findLoan_20
set_option maxHeartbeats 4000000 in
set_option maxRecDepth 100000 in
theorem c_X2_loanMarginsOfBranch (l : Launch) (G : va_G) (y : Nat → ClassId) (a : Nat → Nat) (b : MS) (n : Nat) (la : Nat → Nat → Nat) (L : LNS) (pd : Nat → Nat) (hpd : ∀ k, k < n → L k 0 7 = nI (pd k) ∧ pd k ≤ 6) (q : Int32) : Met l yX2_loanMarginsOfBranch wsX2_loanMarginsOfBranch ({ frames := 3, cells := 0, slots := 0, locals := 64 }) (rP G y [.ref (a 13), .int q] (bkW y a b n la L)) (QcV (.int (bLM n L pd 0 q))) 0 0 (fun _ => False) := by
  refine Met.ofW (cc := cX2_loanMarginsOfBranch) (maxL := 7) (ret := (some .int)) (by decide) rfl ?_
  intro p e s m args below meth c s₁ B hml hv
  obtain ⟨rfl, hP, hK⟩ := hv
  have hx := B.exec
  have hb := B.bytes
  have hr := B.returns
  have hts := atoms_spec (ws := wsX2_loanMarginsOfBranch) B.pre
  have hown : s.vm.findClass RX2 = some m.cls := findClass_of_methodNamed B.named
  have hlocks := B.notSynchronized
  have hl := lv_entry ([.ref (a 13), .int q]) (n := 7) (Nat.le_of_ble_eq_true rfl)
  rw [lg_entry_eq]
  generalize (lg_sl ([.ref (a 13), .int q]) ++ List.replicate (7 - (lg_sl ([.ref (a 13), .int q])).length) Slot.unset).toArray = ls at hl ⊢
  have hin0 : ∀ w ∈ wsX00, w ∈ wsX2_loanMarginsOfBranch := by decide +kernel
  have hin2 : ∀ w ∈ wsX20, w ∈ wsX2_loanMarginsOfBranch := by decide +kernel
  have hl : lv_has ls 7 [(0, .ref (a 13)), (1, .int q)] := hl
  refine lv_iconst (v := 0) hx hb dX2_loanMarginsOfBranch_0 (by decide) ?_
  refine lv_istore_n (lv' := [(2, .int 0), (0, .ref (a 13)), (1, .int q)]) hx hb dX2_loanMarginsOfBranch_1 rfl hl (by decide) rfl (fun ls hl => ?_)
  refine lv_aload_n hx hb dX2_loanMarginsOfBranch_2 rfl (lv_at hl 1 rfl) ?_
  refine bkG (b := b) (val := .ref (a 5)) hx hb hts hin2 hown hK hP 5 (by decide) (hts (.fieldLink RX2 28 "FundBook" "loanRows" "[LFundBook$Loan;") (by decide +kernel)) rfl dX2_loanMarginsOfBranch_3 ?_
  refine lv_astore_n (lv' := [(3, .ref (a 5)), (2, .int 0), (0, .ref (a 13)), (1, .int q)]) hx hb dX2_loanMarginsOfBranch_6 rfl hl (by decide) rfl (fun ls hl => ?_)
  refine lv_aload_n hx hb dX2_loanMarginsOfBranch_7 rfl (lv_at hl 0 rfl) ?_
  refine va_alen (v := 24) hx hb hK.1 hP 2 2 bg_5 rfl rfl dX2_loanMarginsOfBranch_8 ?_
  refine lv_istore (lv' := [(4, .int 24), (3, .ref (a 5)), (2, .int 0), (0, .ref (a 13)), (1, .int q)]) hx hb dX2_loanMarginsOfBranch_9 hl (by decide) rfl (fun ls hl => ?_)
  refine lv_iconst (v := 0) hx hb dX2_loanMarginsOfBranch_11 (by decide) ?_
  refine lv_istore (lv' := [(5, .int 0), (4, .int 24), (3, .ref (a 5)), (2, .int 0), (0, .ref (a 13)), (1, .int q)]) hx hb dX2_loanMarginsOfBranch_12 hl (by decide) rfl (fun ls hl => ?_)
  refine loopW (LV := fun k => [(0, .ref (a 13)), (1, .int q), (3, .ref (a 5)), (4, .int 24), (2, .int (S32 (bSm n (bLm L pd 0 q)) k)), (5, .int (nI k))]) 24 (lv_sub hl [4, 5, 2, 1, 3, 0] rfl) (fun k ls hk_k hl ih_k => ?_) (fun ls hl => ?_)
  · have hl : lv_has ls 7 [(0, .ref (a 13)), (1, .int q), (3, .ref (a 5)), (4, .int 24), (2, .int (S32 (bSm n (bLm L pd 0 q)) k)), (5, .int (nI k))] := hl
    refine lv_iload hx hb dX2_loanMarginsOfBranch_14 (lv_at hl 5 rfl) ?_
    refine lv_iload hx hb dX2_loanMarginsOfBranch_16 (lv_at hl 3 rfl) ?_
    refine lv_icmp_ge (tgt := 55) hx hb dX2_loanMarginsOfBranch_18 (by decide) (fun c_18 => absurd c_18 (nI_ge hk_k (by decide))) (fun c_18 => ?_)
    refine lv_aload_n hx hb dX2_loanMarginsOfBranch_21 rfl (lv_at hl 2 rfl) ?_
    refine lv_iload hx hb dX2_loanMarginsOfBranch_22 (lv_at hl 5 rfl) ?_
    refine ldQ (f := lrF n la) hx hb hK hP 2 bg_5 k rfl (by omega) (by decide) dX2_loanMarginsOfBranch_24 ?_
    rcases Nat.lt_or_ge k n with hkn | hkn
    · refine lv_optS (if_pos hkn) ?_
      refine lv_astore (lv' := [(6, .ref (la k 0)), (0, .ref (a 13)), (1, .int q), (3, .ref (a 5)), (4, .int 24), (2, .int (S32 (bSm n (bLm L pd 0 q)) k)), (5, .int (nI k))]) hx hb dX2_loanMarginsOfBranch_25 hl (by decide) rfl (fun ls hl => ?_)
      refine lv_aload hx hb dX2_loanMarginsOfBranch_27 (lv_at hl 0 rfl) ?_
      refine lv_ifnull hx hb dX2_loanMarginsOfBranch_29 ?_
      refine lv_aload hx hb dX2_loanMarginsOfBranch_32 (lv_at hl 0 rfl) ?_
      refine lnGN (i := k) (val := .int (L k 0 0)) hx hb hts hin0 hown hK (bk_ln hP hkn) 0 (by decide) (by decide +kernel) rfl dX2_loanMarginsOfBranch_34 ?_
      refine lv_iload_n hx hb dX2_loanMarginsOfBranch_37 rfl (lv_at hl 2 rfl) ?_
      refine lv_icmp_ne (tgt := 49) hx hb dX2_loanMarginsOfBranch_38 (by decide) (fun c_38 => ?_) (fun c_38 => ?_)
      · refine lv_iinc (v := (nI (k + 1))) (lv' := [(5, .int (nI (k + 1))), (6, .ref (la k 0)), (0, .ref (a 13)), (1, .int q), (3, .ref (a 5)), (4, .int 24), (2, .int (S32 (bSm n (bLm L pd 0 q)) k))]) hx hb dX2_loanMarginsOfBranch_49 hl (k := 6) rfl iinc1 (by decide) rfl (fun ls hl => ?_)
        refine lv_goto (tgt := 14) hx hb dX2_loanMarginsOfBranch_52 (by decide) ?_
        have e0 : bLm L pd 0 q k = 0 := if_neg c_38
        exact ih_k ls (by show lv_has ls 7 _; rw [bSm_0 e0]; exact lv_sub hl [2, 3, 4, 5, 6, 0] rfl)
      · refine lv_iload_n hx hb dX2_loanMarginsOfBranch_41 rfl (lv_at hl 5 rfl) ?_
        refine lv_aload hx hb dX2_loanMarginsOfBranch_42 (lv_at hl 0 rfl) ?_
        refine caR (r := .int (lOwn (L k) (pd k))) (va_runVN (As := []) (rest := [.int (S32 (bSm n (bLm L pd 0 q)) k)]) ⟨hx, hb, hml, hown, hts⟩ (c_X0_ownMargin l G y la L k (pd k) (hpd k hkn).1 (hpd k hkn).2) ⟨va_cnB (host := "FundBook") 0 hts gX2_loanMarginsOfBranch_X0_ownMargin_n158 rfl rfl rfl (hK.nw (by decide +kernel)) (hts (.initialized RX0) (by decide +kernel)) (by decide +kernel) ⟨Nat.le_of_ble_eq_true rfl, Nat.le_of_ble_eq_true rfl⟩, hts (.instanceMethod yX0_ownMargin) (by decide +kernel), hts (.selects RX0 yX0_ownMargin yX0_ownMargin) (by decide +kernel)⟩ ⟨rP_bl, va_recv hK.1 (bk_ln hP hkn) (ci := 0) (q0 := 0) rfl rfl, fun U hU hW => ⟨rfl, by rw [hU]; exact (bk_ln hP hkn), Kb.moved hW hK⟩⟩ rfl rfl hl.1 rfl (lv_room (Nat.le_of_ble_eq_true rfl)) dX2_loanMarginsOfBranch_44 ⟨Nat.le_of_ble_eq_true rfl, Nat.le_of_ble_eq_true rfl⟩) ?_
        have e0 : bLm L pd 0 q k = lOwn (L k) (pd k) := if_pos c_38
        refine lv_iadd hx hb dX2_loanMarginsOfBranch_47 ?_
        refine lv_topE (z := S32 (bSm n (bLm L pd 0 q)) (k + 1)) (by rw [← bSm_s hkn, e0]) ?_
        refine lv_istore_n (lv' := [(2, .int (S32 (bSm n (bLm L pd 0 q)) (k + 1))), (6, .ref (la k 0)), (0, .ref (a 13)), (1, .int q), (3, .ref (a 5)), (4, .int 24), (5, .int (nI k))]) hx hb dX2_loanMarginsOfBranch_48 rfl hl (by decide) rfl (fun ls hl => ?_)
        refine lv_iinc (v := (nI (k + 1))) (lv' := [(5, .int (nI (k + 1))), (2, .int (S32 (bSm n (bLm L pd 0 q)) (k + 1))), (6, .ref (la k 0)), (0, .ref (a 13)), (1, .int q), (3, .ref (a 5)), (4, .int 24)]) hx hb dX2_loanMarginsOfBranch_49 hl (k := 6) rfl iinc1 (by decide) rfl (fun ls hl => ?_)
        refine lv_goto (tgt := 14) hx hb dX2_loanMarginsOfBranch_52 (by decide) ?_
        exact ih_k ls (lv_sub hl [3, 4, 5, 6, 1, 0] rfl)
    · refine lv_optN (if_neg (Nat.not_lt.mpr hkn)) ?_
      refine lv_astoreN (lv' := [(6, .null), (0, .ref (a 13)), (1, .int q), (3, .ref (a 5)), (4, .int 24), (2, .int (S32 (bSm n (bLm L pd 0 q)) k)), (5, .int (nI k))]) hx hb dX2_loanMarginsOfBranch_25 hl (by decide) rfl (fun ls hl => ?_)
      refine lv_aloadN hx hb dX2_loanMarginsOfBranch_27 (lv_at hl 0 rfl) ?_
      refine lv_ifnullN (tgt := 49) hx hb dX2_loanMarginsOfBranch_29 (by decide) ?_
      refine lv_iinc (v := (nI (k + 1))) (lv' := [(5, .int (nI (k + 1))), (6, .null), (0, .ref (a 13)), (1, .int q), (3, .ref (a 5)), (4, .int 24), (2, .int (S32 (bSm n (bLm L pd 0 q)) k))]) hx hb dX2_loanMarginsOfBranch_49 hl (k := 6) rfl iinc1 (by decide) rfl (fun ls hl => ?_)
      refine lv_goto (tgt := 14) hx hb dX2_loanMarginsOfBranch_52 (by decide) ?_
      exact ih_k ls (by show lv_has ls 7 _; rw [bSm_k hkn]; exact lv_sub hl [2, 3, 4, 5, 6, 0] rfl)
  · have hl : lv_has ls 7 [(0, .ref (a 13)), (1, .int q), (3, .ref (a 5)), (4, .int 24), (2, .int (S32 (bSm n (bLm L pd 0 q)) 24)), (5, .int (nI 24))] := hl
    refine lv_iload hx hb dX2_loanMarginsOfBranch_14 (lv_at hl 5 rfl) ?_
    refine lv_iload hx hb dX2_loanMarginsOfBranch_16 (lv_at hl 3 rfl) ?_
    refine lv_icmp_ge (tgt := 55) hx hb dX2_loanMarginsOfBranch_18 (by decide) (fun c_18 => ?_) (fun c_18 => absurd (nI_le (Nat.le_refl 24) (by decide)) c_18)
    refine lv_iload_n hx hb dX2_loanMarginsOfBranch_55 rfl (lv_at hl 4 rfl) ?_
    exact W.iret (v := S32 (bSm n (bLm L pd 0 q)) 24) hx hb hr (fun t ht hW => ⟨congrArg (fun z => Outcome.returned (some (.int z))) (rfl), ht⟩) t_nil dX2_loanMarginsOfBranch_56
set_option maxHeartbeats 4000000 in
set_option maxRecDepth 100000 in
theorem c_X2_loanMarginsOfProduct (l : Launch) (G : va_G) (y : Nat → ClassId) (a : Nat → Nat) (b : MS) (n : Nat) (la : Nat → Nat → Nat) (L : LNS) (pd : Nat → Nat) (hpd : ∀ k, k < n → L k 0 7 = nI (pd k) ∧ pd k ≤ 6) (q : Int32) : Met l yX2_loanMarginsOfProduct wsX2_loanMarginsOfProduct ({ frames := 3, cells := 0, slots := 0, locals := 64 }) (rP G y [.ref (a 13), .int q] (bkW y a b n la L)) (QcV (.int (bLM n L pd 1 q))) 0 0 (fun _ => False) := by
  refine Met.ofW (cc := cX2_loanMarginsOfProduct) (maxL := 7) (ret := (some .int)) (by decide) rfl ?_
  intro p e s m args below meth c s₁ B hml hv
  obtain ⟨rfl, hP, hK⟩ := hv
  have hx := B.exec
  have hb := B.bytes
  have hr := B.returns
  have hts := atoms_spec (ws := wsX2_loanMarginsOfProduct) B.pre
  have hown : s.vm.findClass RX2 = some m.cls := findClass_of_methodNamed B.named
  have hlocks := B.notSynchronized
  have hl := lv_entry ([.ref (a 13), .int q]) (n := 7) (Nat.le_of_ble_eq_true rfl)
  rw [lg_entry_eq]
  generalize (lg_sl ([.ref (a 13), .int q]) ++ List.replicate (7 - (lg_sl ([.ref (a 13), .int q])).length) Slot.unset).toArray = ls at hl ⊢
  have hin0 : ∀ w ∈ wsX00, w ∈ wsX2_loanMarginsOfProduct := by decide +kernel
  have hin2 : ∀ w ∈ wsX20, w ∈ wsX2_loanMarginsOfProduct := by decide +kernel
  have hl : lv_has ls 7 [(0, .ref (a 13)), (1, .int q)] := hl
  refine lv_iconst (v := 0) hx hb dX2_loanMarginsOfProduct_0 (by decide) ?_
  refine lv_istore_n (lv' := [(2, .int 0), (0, .ref (a 13)), (1, .int q)]) hx hb dX2_loanMarginsOfProduct_1 rfl hl (by decide) rfl (fun ls hl => ?_)
  refine lv_aload_n hx hb dX2_loanMarginsOfProduct_2 rfl (lv_at hl 1 rfl) ?_
  refine bkG (b := b) (val := .ref (a 5)) hx hb hts hin2 hown hK hP 5 (by decide) (hts (.fieldLink RX2 28 "FundBook" "loanRows" "[LFundBook$Loan;") (by decide +kernel)) rfl dX2_loanMarginsOfProduct_3 ?_
  refine lv_astore_n (lv' := [(3, .ref (a 5)), (2, .int 0), (0, .ref (a 13)), (1, .int q)]) hx hb dX2_loanMarginsOfProduct_6 rfl hl (by decide) rfl (fun ls hl => ?_)
  refine lv_aload_n hx hb dX2_loanMarginsOfProduct_7 rfl (lv_at hl 0 rfl) ?_
  refine va_alen (v := 24) hx hb hK.1 hP 2 2 bg_5 rfl rfl dX2_loanMarginsOfProduct_8 ?_
  refine lv_istore (lv' := [(4, .int 24), (3, .ref (a 5)), (2, .int 0), (0, .ref (a 13)), (1, .int q)]) hx hb dX2_loanMarginsOfProduct_9 hl (by decide) rfl (fun ls hl => ?_)
  refine lv_iconst (v := 0) hx hb dX2_loanMarginsOfProduct_11 (by decide) ?_
  refine lv_istore (lv' := [(5, .int 0), (4, .int 24), (3, .ref (a 5)), (2, .int 0), (0, .ref (a 13)), (1, .int q)]) hx hb dX2_loanMarginsOfProduct_12 hl (by decide) rfl (fun ls hl => ?_)
  refine loopW (LV := fun k => [(0, .ref (a 13)), (1, .int q), (3, .ref (a 5)), (4, .int 24), (2, .int (S32 (bSm n (bLm L pd 1 q)) k)), (5, .int (nI k))]) 24 (lv_sub hl [4, 5, 2, 1, 3, 0] rfl) (fun k ls hk_k hl ih_k => ?_) (fun ls hl => ?_)
  · have hl : lv_has ls 7 [(0, .ref (a 13)), (1, .int q), (3, .ref (a 5)), (4, .int 24), (2, .int (S32 (bSm n (bLm L pd 1 q)) k)), (5, .int (nI k))] := hl
    refine lv_iload hx hb dX2_loanMarginsOfProduct_14 (lv_at hl 5 rfl) ?_
    refine lv_iload hx hb dX2_loanMarginsOfProduct_16 (lv_at hl 3 rfl) ?_
    refine lv_icmp_ge (tgt := 55) hx hb dX2_loanMarginsOfProduct_18 (by decide) (fun c_18 => absurd c_18 (nI_ge hk_k (by decide))) (fun c_18 => ?_)
    refine lv_aload_n hx hb dX2_loanMarginsOfProduct_21 rfl (lv_at hl 2 rfl) ?_
    refine lv_iload hx hb dX2_loanMarginsOfProduct_22 (lv_at hl 5 rfl) ?_
    refine ldQ (f := lrF n la) hx hb hK hP 2 bg_5 k rfl (by omega) (by decide) dX2_loanMarginsOfProduct_24 ?_
    rcases Nat.lt_or_ge k n with hkn | hkn
    · refine lv_optS (if_pos hkn) ?_
      refine lv_astore (lv' := [(6, .ref (la k 0)), (0, .ref (a 13)), (1, .int q), (3, .ref (a 5)), (4, .int 24), (2, .int (S32 (bSm n (bLm L pd 1 q)) k)), (5, .int (nI k))]) hx hb dX2_loanMarginsOfProduct_25 hl (by decide) rfl (fun ls hl => ?_)
      refine lv_aload hx hb dX2_loanMarginsOfProduct_27 (lv_at hl 0 rfl) ?_
      refine lv_ifnull hx hb dX2_loanMarginsOfProduct_29 ?_
      refine lv_aload hx hb dX2_loanMarginsOfProduct_32 (lv_at hl 0 rfl) ?_
      refine lnGN (i := k) (val := .int (L k 0 1)) hx hb hts hin0 hown hK (bk_ln hP hkn) 1 (by decide) (by decide +kernel) rfl dX2_loanMarginsOfProduct_34 ?_
      refine lv_iload_n hx hb dX2_loanMarginsOfProduct_37 rfl (lv_at hl 2 rfl) ?_
      refine lv_icmp_ne (tgt := 49) hx hb dX2_loanMarginsOfProduct_38 (by decide) (fun c_38 => ?_) (fun c_38 => ?_)
      · refine lv_iinc (v := (nI (k + 1))) (lv' := [(5, .int (nI (k + 1))), (6, .ref (la k 0)), (0, .ref (a 13)), (1, .int q), (3, .ref (a 5)), (4, .int 24), (2, .int (S32 (bSm n (bLm L pd 1 q)) k))]) hx hb dX2_loanMarginsOfProduct_49 hl (k := 6) rfl iinc1 (by decide) rfl (fun ls hl => ?_)
        refine lv_goto (tgt := 14) hx hb dX2_loanMarginsOfProduct_52 (by decide) ?_
        have e0 : bLm L pd 1 q k = 0 := if_neg c_38
        exact ih_k ls (by show lv_has ls 7 _; rw [bSm_0 e0]; exact lv_sub hl [2, 3, 4, 5, 6, 0] rfl)
      · refine lv_iload_n hx hb dX2_loanMarginsOfProduct_41 rfl (lv_at hl 5 rfl) ?_
        refine lv_aload hx hb dX2_loanMarginsOfProduct_42 (lv_at hl 0 rfl) ?_
        refine caR (r := .int (lOwn (L k) (pd k))) (va_runVN (As := []) (rest := [.int (S32 (bSm n (bLm L pd 1 q)) k)]) ⟨hx, hb, hml, hown, hts⟩ (c_X0_ownMargin l G y la L k (pd k) (hpd k hkn).1 (hpd k hkn).2) ⟨va_cnB (host := "FundBook") 0 hts gX2_loanMarginsOfProduct_X0_ownMargin_n158 rfl rfl rfl (hK.nw (by decide +kernel)) (hts (.initialized RX0) (by decide +kernel)) (by decide +kernel) ⟨Nat.le_of_ble_eq_true rfl, Nat.le_of_ble_eq_true rfl⟩, hts (.instanceMethod yX0_ownMargin) (by decide +kernel), hts (.selects RX0 yX0_ownMargin yX0_ownMargin) (by decide +kernel)⟩ ⟨rP_bl, va_recv hK.1 (bk_ln hP hkn) (ci := 0) (q0 := 0) rfl rfl, fun U hU hW => ⟨rfl, by rw [hU]; exact (bk_ln hP hkn), Kb.moved hW hK⟩⟩ rfl rfl hl.1 rfl (lv_room (Nat.le_of_ble_eq_true rfl)) dX2_loanMarginsOfProduct_44 ⟨Nat.le_of_ble_eq_true rfl, Nat.le_of_ble_eq_true rfl⟩) ?_
        have e0 : bLm L pd 1 q k = lOwn (L k) (pd k) := if_pos c_38
        refine lv_iadd hx hb dX2_loanMarginsOfProduct_47 ?_
        refine lv_topE (z := S32 (bSm n (bLm L pd 1 q)) (k + 1)) (by rw [← bSm_s hkn, e0]) ?_
        refine lv_istore_n (lv' := [(2, .int (S32 (bSm n (bLm L pd 1 q)) (k + 1))), (6, .ref (la k 0)), (0, .ref (a 13)), (1, .int q), (3, .ref (a 5)), (4, .int 24), (5, .int (nI k))]) hx hb dX2_loanMarginsOfProduct_48 rfl hl (by decide) rfl (fun ls hl => ?_)
        refine lv_iinc (v := (nI (k + 1))) (lv' := [(5, .int (nI (k + 1))), (2, .int (S32 (bSm n (bLm L pd 1 q)) (k + 1))), (6, .ref (la k 0)), (0, .ref (a 13)), (1, .int q), (3, .ref (a 5)), (4, .int 24)]) hx hb dX2_loanMarginsOfProduct_49 hl (k := 6) rfl iinc1 (by decide) rfl (fun ls hl => ?_)
        refine lv_goto (tgt := 14) hx hb dX2_loanMarginsOfProduct_52 (by decide) ?_
        exact ih_k ls (lv_sub hl [3, 4, 5, 6, 1, 0] rfl)
    · refine lv_optN (if_neg (Nat.not_lt.mpr hkn)) ?_
      refine lv_astoreN (lv' := [(6, .null), (0, .ref (a 13)), (1, .int q), (3, .ref (a 5)), (4, .int 24), (2, .int (S32 (bSm n (bLm L pd 1 q)) k)), (5, .int (nI k))]) hx hb dX2_loanMarginsOfProduct_25 hl (by decide) rfl (fun ls hl => ?_)
      refine lv_aloadN hx hb dX2_loanMarginsOfProduct_27 (lv_at hl 0 rfl) ?_
      refine lv_ifnullN (tgt := 49) hx hb dX2_loanMarginsOfProduct_29 (by decide) ?_
      refine lv_iinc (v := (nI (k + 1))) (lv' := [(5, .int (nI (k + 1))), (6, .null), (0, .ref (a 13)), (1, .int q), (3, .ref (a 5)), (4, .int 24), (2, .int (S32 (bSm n (bLm L pd 1 q)) k))]) hx hb dX2_loanMarginsOfProduct_49 hl (k := 6) rfl iinc1 (by decide) rfl (fun ls hl => ?_)
      refine lv_goto (tgt := 14) hx hb dX2_loanMarginsOfProduct_52 (by decide) ?_
      exact ih_k ls (by show lv_has ls 7 _; rw [bSm_k hkn]; exact lv_sub hl [2, 3, 4, 5, 6, 0] rfl)
  · have hl : lv_has ls 7 [(0, .ref (a 13)), (1, .int q), (3, .ref (a 5)), (4, .int 24), (2, .int (S32 (bSm n (bLm L pd 1 q)) 24)), (5, .int (nI 24))] := hl
    refine lv_iload hx hb dX2_loanMarginsOfProduct_14 (lv_at hl 5 rfl) ?_
    refine lv_iload hx hb dX2_loanMarginsOfProduct_16 (lv_at hl 3 rfl) ?_
    refine lv_icmp_ge (tgt := 55) hx hb dX2_loanMarginsOfProduct_18 (by decide) (fun c_18 => ?_) (fun c_18 => absurd (nI_le (Nat.le_refl 24) (by decide)) c_18)
    refine lv_iload_n hx hb dX2_loanMarginsOfProduct_55 rfl (lv_at hl 4 rfl) ?_
    exact W.iret (v := S32 (bSm n (bLm L pd 1 q)) 24) hx hb hr (fun t ht hW => ⟨congrArg (fun z => Outcome.returned (some (.int z))) (rfl), ht⟩) t_nil dX2_loanMarginsOfProduct_56
set_option maxHeartbeats 4000000 in
set_option maxRecDepth 100000 in
theorem c_X2_month (l : Launch) (G : va_G) (y : Nat → ClassId) (a : Nat → Nat) (b : MS) (n : Nat) (la : Nat → Nat → Nat) (L : LNS)  : Met l yX2_month wsX2_month ({ frames := 0, cells := 0, slots := 0, locals := 0 }) (rP G y [.ref (a 13)] (bkW y a b n la L)) (QcV (.int (b 13 4))) 0 0 (fun _ => False) := by
  refine Met.ofW (cc := cX2_month) (maxL := 1) (ret := (some .int)) (by decide) rfl ?_
  intro p e s m args below meth c s₁ B hml hv
  obtain ⟨rfl, hP, hK⟩ := hv
  have hx := B.exec
  have hb := B.bytes
  have hr := B.returns
  have hts := atoms_spec (ws := wsX2_month) B.pre
  have hown : s.vm.findClass RX2 = some m.cls := findClass_of_methodNamed B.named
  have hlocks := B.notSynchronized
  have hl := lv_entry ([.ref (a 13)]) (n := 1) (Nat.le_of_ble_eq_true rfl)
  rw [lg_entry_eq]
  generalize (lg_sl ([.ref (a 13)]) ++ List.replicate (1 - (lg_sl ([.ref (a 13)])).length) Slot.unset).toArray = ls at hl ⊢
  have hin2 : ∀ w ∈ wsX20, w ∈ wsX2_month := by decide +kernel
  have hl : lv_has ls 1 [(0, .ref (a 13))] := hl
  refine lv_aload_n hx hb dX2_month_0 rfl (lv_at hl 0 rfl) ?_
  refine bkG (b := b) (val := .int (b 13 4)) hx hb hts hin2 hown hK hP 4 (by decide) (hts (.fieldLink RX2 23 "FundBook" "now" "I") (by decide +kernel)) rfl dX2_month_1 ?_
  exact W.iret (v := b 13 4) hx hb hr (fun t ht hW => ⟨congrArg (fun z => Outcome.returned (some (.int z))) (rfl), ht⟩) t_nil dX2_month_4
set_option maxHeartbeats 4000000 in
set_option maxRecDepth 100000 in
theorem c_X2_loans (l : Launch) (G : va_G) (y : Nat → ClassId) (a : Nat → Nat) (b : MS) (n : Nat) (la : Nat → Nat → Nat) (L : LNS)  : Met l yX2_loans wsX2_loans ({ frames := 0, cells := 0, slots := 0, locals := 0 }) (rP G y [.ref (a 13)] (bkW y a b n la L)) (QcV (.int (b 13 6))) 0 0 (fun _ => False) := by
  refine Met.ofW (cc := cX2_loans) (maxL := 1) (ret := (some .int)) (by decide) rfl ?_
  intro p e s m args below meth c s₁ B hml hv
  obtain ⟨rfl, hP, hK⟩ := hv
  have hx := B.exec
  have hb := B.bytes
  have hr := B.returns
  have hts := atoms_spec (ws := wsX2_loans) B.pre
  have hown : s.vm.findClass RX2 = some m.cls := findClass_of_methodNamed B.named
  have hlocks := B.notSynchronized
  have hl := lv_entry ([.ref (a 13)]) (n := 1) (Nat.le_of_ble_eq_true rfl)
  rw [lg_entry_eq]
  generalize (lg_sl ([.ref (a 13)]) ++ List.replicate (1 - (lg_sl ([.ref (a 13)])).length) Slot.unset).toArray = ls at hl ⊢
  have hin2 : ∀ w ∈ wsX20, w ∈ wsX2_loans := by decide +kernel
  have hl : lv_has ls 1 [(0, .ref (a 13))] := hl
  refine lv_aload_n hx hb dX2_loans_0 rfl (lv_at hl 0 rfl) ?_
  refine bkG (b := b) (val := .int (b 13 6)) hx hb hts hin2 hown hK hP 6 (by decide) (hts (.fieldLink RX2 32 "FundBook" "loanCount" "I") (by decide +kernel)) rfl dX2_loans_1 ?_
  exact W.iret (v := b 13 6) hx hb hr (fun t ht hW => ⟨congrArg (fun z => Outcome.returned (some (.int z))) (rfl), ht⟩) t_nil dX2_loans_4
set_option maxHeartbeats 4000000 in
set_option maxRecDepth 100000 in
theorem c_X2_replicaRate (l : Launch) (G : va_G) (y : Nat → ClassId) (a : Nat → Nat) (b : MS) (n : Nat) (la : Nat → Nat → Nat) (L : LNS)  : Met l yX2_replicaRate wsX2_replicaRate ({ frames := 1, cells := 0, slots := 0, locals := 25 }) (rP G y [.ref (a 13)] (bkW y a b n la L)) (QcV (.int (bAvg b))) 0 0 (fun _ => False) := by
  refine Met.ofW (cc := cX2_replicaRate) (maxL := 1) (ret := (some .int)) (by decide) rfl ?_
  intro p e s m args below meth c s₁ B hml hv
  obtain ⟨rfl, hP, hK⟩ := hv
  have hx := B.exec
  have hb := B.bytes
  have hr := B.returns
  have hts := atoms_spec (ws := wsX2_replicaRate) B.pre
  have hown : s.vm.findClass RX2 = some m.cls := findClass_of_methodNamed B.named
  have hlocks := B.notSynchronized
  have hl := lv_entry ([.ref (a 13)]) (n := 1) (Nat.le_of_ble_eq_true rfl)
  rw [lg_entry_eq]
  generalize (lg_sl ([.ref (a 13)]) ++ List.replicate (1 - (lg_sl ([.ref (a 13)])).length) Slot.unset).toArray = ls at hl ⊢
  have hin2 : ∀ w ∈ wsX20, w ∈ wsX2_replicaRate := by decide +kernel
  have hl : lv_has ls 1 [(0, .ref (a 13))] := hl
  refine lv_aload_n hx hb dX2_replicaRate_0 rfl (lv_at hl 0 rfl) ?_
  refine bkG (b := b) (val := .ref (a 8)) hx hb hts hin2 hown hK hP 8 (by decide) (hts (.fieldLink RX2 41 "FundBook" "replica" "LFundBook$Replica;") (by decide +kernel)) rfl dX2_replicaRate_1 ?_
  refine caR (r := .int (bAvg b)) (va_runVN (As := []) (rest := []) ⟨hx, hb, hml, hown, hts⟩ (c_X1_averageRate l G y a b) ⟨va_cnB (host := "FundBook") 0 hts gX2_replicaRate_X1_averageRate_n174 rfl rfl rfl (hK.nw (by decide +kernel)) (hts (.initialized RX1) (by decide +kernel)) (by decide +kernel) ⟨Nat.le_of_ble_eq_true rfl, Nat.le_of_ble_eq_true rfl⟩, hts (.instanceMethod yX1_averageRate) (by decide +kernel), hts (.selects RX1 yX1_averageRate yX1_averageRate) (by decide +kernel)⟩ ⟨rP_bl, va_recv hK.1 (bk_rp hP) (ci := 1) (q0 := 0) rfl rfl, fun U hU hW => ⟨rfl, by rw [hU]; exact (bk_rp hP), Kb.moved hW hK⟩⟩ rfl rfl hl.1 rfl (lv_room (Nat.le_of_ble_eq_true rfl)) dX2_replicaRate_4 ⟨Nat.le_of_ble_eq_true rfl, Nat.le_of_ble_eq_true rfl⟩) ?_
  exact W.iret (v := bAvg b) hx hb hr (fun t ht hW => ⟨congrArg (fun z => Outcome.returned (some (.int z))) (rfl), ht⟩) t_nil dX2_replicaRate_7
end
section
/-! ===== the book's writes and calls that may throw (printed by a program of mine) ===== -/
theorem bPA_o {L : LNS} {n : Nat} {pd : Nat → Nat} {i : Nat} : ∀ k, k ≤ i → bPA L n pd k i = L i
  | 0, _ => rfl
  | k + 1, h => by
    have h1 : i ≠ k := by omega
    rw [bPA]
    split
    · rw [bPP]
      split
      · rw [u3, if_neg h1]; exact bPA_o k (by omega)
      · exact bPA_o k (by omega)
    · exact bPA_o k (by omega)
theorem bPd_c {b w : MS} {x r : Int32} (h3 : w 13 3 = b 13 3) (h0 : w 0 = b 0) : bPd w x r = bPd b x r := by
  simp only [bPd, bCo, h3, h0]
theorem bFind_N {n : Nat} {la : Nat → Nat → Nat} {x : Int32} (h : mIn x 0 (nI n - 1) = 0) (hn : n ≤ 24) : bFind n la x = none := by
  unfold bFind
  by_cases h0 : x < 0
  · exact if_pos h0
  · rw [if_neg h0]
    by_cases h1 : x < 24
    · rw [if_pos h1]
      refine if_neg (fun hc => ?_)
      have e := cl_nI h0
      rw [e] at h
      unfold mIn at h
      rw [if_neg (nI_pos (by omega))] at h
      cases n with
      | zero => exact absurd hc (by omega)
      | succ m =>
        rw [nI_pred, if_neg (nI_nlt (show cn x ≤ m by omega) (by omega))] at h
        exact absurd h (by decide)
    · exact if_neg h1
theorem bFind_S {n : Nat} {la : Nat → Nat → Nat} {i : Nat} (h : i < n) (hn : n ≤ 24) : bFind n la (nI i) = some (la i 0) := by
  unfold bFind
  rw [if_neg (nI_pos (by omega)), if_pos (show nI i < 24 from nI_lt (show i < 24 by omega) (by decide)), cnI (by omega)]
  exact if_pos h
theorem inS {x : Int32} (h1 : ¬ x < 1) (h6 : ¬ 6 < x) : ∃ i, i < 6 ∧ x = nI (i + 1) := by
  have h0 := lt_1_0 h1
  have e := cl_nI h0
  have h6 := cl_le (M := 6) h0 h6 (by decide)
  rcases Nat.eq_zero_or_pos (cn x) with q | q
  · rw [q] at e
    rw [e] at h1
    exact absurd (by decide) h1
  · exact ⟨cn x - 1, by omega, by rw [show cn x - 1 + 1 = cn x by omega]; exact e⟩
theorem inR {x : Int32} {M : Nat} (h0 : ¬ x < 0) (hM : ¬ nI M ≤ x) (h31 : M < 2 ^ 31) : ∃ i, i < M ∧ x = nI i := ⟨cn x, cl_lt h0 hM h31, cl_nI h0⟩
theorem bEn_T {t : Nat} {x : Int32} (h : ¬ bEn t x = 0) (ht : t ≤ 47) : ∃ j, j < t ∧ x = nI j := by
  unfold bEn at h
  by_cases h0 : x < 0
  · rw [if_pos h0] at h; exact absurd rfl h
  · rw [if_neg h0] at h
    by_cases h1 : nI t ≤ x
    · rw [if_pos h1] at h; exact absurd rfl h
    · exact inR h0 h1 (by omega)
def xClose (t : Nat) : Nat := if t = 47 then 3 else 0
theorem mIn_F3 {w : Int32} (h : mIn w 0 3 = 0) : w.toInt < 0 ∨ 3 < w.toInt := by
  unfold mIn at h
  by_cases h0 : w < 0
  · exact Or.inl (by rw [Int32.lt_iff_toInt_lt] at h0; exact h0)
  · rw [if_neg h0] at h
    by_cases h1 : 3 < w
    · exact Or.inr (by rw [Int32.lt_iff_toInt_lt] at h1; exact h1)
    · rw [if_neg h1] at h
      exact absurd h (by decide)
set_option maxHeartbeats 4000000 in
set_option maxRecDepth 100000 in
theorem c_X2_payParts (l : Launch) (G : va_G) (y : Nat → ClassId) (a : Nat → Nat) (b : MS) (n : Nat) (la : Nat → Nat → Nat) (L : LNS) (sz : Nat) (pd : Nat → Nat) (hpd : ∀ k, k < n → L k 0 7 = nI (pd k) ∧ pd k ≤ 6) : Met l yX2_payParts wsX2_payParts ({ frames := 1, cells := 0, slots := 0, locals := 20 }) (mP G y [.ref (a 13)] (bkW y a b n la L) sz) (mQ G (fun _ : Unit => none) (fun _ => True) (fun _ => bkW y a b n la (bPA L n pd 24)) (va_A (bkW y a b n la L) sz)) 0 0 (va_A (bkW y a b n la L) sz) := by
  refine Met.ofW (cc := cX2_payParts) (maxL := 5) (ret := none) (by decide) rfl ?_
  intro p e s m args below meth c s₁ B hml hv
  obtain ⟨rfl, hsz, hP, hK, hD0⟩ := hv
  have hx := B.exec
  have hb := B.bytes
  have hr := B.returns
  have hts := atoms_spec (ws := wsX2_payParts) B.pre
  have hown : s.vm.findClass RX2 = some m.cls := findClass_of_methodNamed B.named
  have hlocks := B.notSynchronized
  subst hsz
  have hD := hD0.self (sz := s.heap.size)
  generalize hAe : va_A (bkW y a b n la L) s.heap.size = A at hD ⊢
  have hA : ∀ q : Nat, s.heap.size ≤ q → A q := fun q h => by rw [← hAe]; exact Or.inr h
  have hS : va_S A s.heap s.heap [] := va_S.rf
  have hP : va_P G vwCl (bkW y a b n la L) s.heap := hP
  have hl := lv_entry ([.ref (a 13)]) (n := 5) (Nat.le_of_ble_eq_true rfl)
  rw [lg_entry_eq]
  generalize (lg_sl ([.ref (a 13)]) ++ List.replicate (5 - (lg_sl ([.ref (a 13)])).length) Slot.unset).toArray = ls at hl ⊢
  have hin2 : ∀ w ∈ wsX20, w ∈ wsX2_payParts := by decide +kernel
  have hl : lv_has ls 5 [(0, .ref (a 13))] := hl
  refine lv_aload_n hx hb dX2_payParts_0 rfl (lv_at hl 0 rfl) ?_
  refine bkG (b := b) (val := .ref (a 5)) hx hb hts hin2 hown hK hP 5 (by decide) (hts (.fieldLink RX2 28 "FundBook" "loanRows" "[LFundBook$Loan;") (by decide +kernel)) rfl dX2_payParts_1 ?_
  refine lv_astore_n (lv' := [(1, .ref (a 5)), (0, .ref (a 13))]) hx hb dX2_payParts_4 rfl hl (by decide) rfl (fun ls hl => ?_)
  refine lv_aload_n hx hb dX2_payParts_5 rfl (lv_at hl 0 rfl) ?_
  refine va_alen (v := 24) hx hb hK.1 hP 2 2 bg_5 rfl rfl dX2_payParts_6 ?_
  refine lv_istore_n (lv' := [(2, .int 24), (1, .ref (a 5)), (0, .ref (a 13))]) hx hb dX2_payParts_7 rfl hl (by decide) rfl (fun ls hl => ?_)
  refine lv_iconst (v := 0) hx hb dX2_payParts_8 (by decide) ?_
  refine lv_istore_n (lv' := [(3, .int 0), (2, .int 24), (1, .ref (a 5)), (0, .ref (a 13))]) hx hb dX2_payParts_9 rfl hl (by decide) rfl (fun ls hl => ?_)
  refine loopM (LV := fun k => [(0, .ref (a 13)), (1, .ref (a 5)), (2, .int 24), (3, .int (nI k))]) (WS := fun k => bkW y a b n la (bPA L n pd k)) 24 hP hD hS (lv_sub hl [3, 2, 1, 0] rfl) (fun k H locs ls hk_k hP hD hS hl ih_k => ?_) (fun H locs ls hP hD hS hl => ?_)
  · have hl : lv_has ls 5 [(0, .ref (a 13)), (1, .ref (a 5)), (2, .int 24), (3, .int (nI k))] := hl
    have hP : va_P G vwCl (bkW y a b n la (bPA L n pd k)) H := hP
    have hD : va_D A (bkW y a b n la (bPA L n pd k)) := hD
    refine lv_iload_n hx hb dX2_payParts_10 rfl (lv_at hl 3 rfl) ?_
    refine lv_iload_n hx hb dX2_payParts_11 rfl (lv_at hl 2 rfl) ?_
    refine lv_icmp_ge (tgt := 36) hx hb dX2_payParts_12 (by decide) (fun c_12 => absurd c_12 (nI_ge hk_k (by decide))) (fun c_12 => ?_)
    refine lv_aload_n hx hb dX2_payParts_15 rfl (lv_at hl 1 rfl) ?_
    refine lv_iload_n hx hb dX2_payParts_16 rfl (lv_at hl 3 rfl) ?_
    refine ldQ (f := lrF n la) hx hb hK hP 2 bg_5 k rfl (by omega) (by decide) dX2_payParts_17 ?_
    rcases Nat.lt_or_ge k n with hkn | hkn
    · refine lv_optS (if_pos hkn) ?_
      refine lv_astore (lv' := [(4, .ref (la k 0)), (0, .ref (a 13)), (1, .ref (a 5)), (2, .int 24), (3, .int (nI k))]) hx hb dX2_payParts_18 hl (by decide) rfl (fun ls hl => ?_)
      refine lv_aload hx hb dX2_payParts_20 (lv_at hl 0 rfl) ?_
      refine lv_ifnull hx hb dX2_payParts_22 ?_
      refine lv_aload hx hb dX2_payParts_25 (lv_at hl 0 rfl) ?_
      refine caM (va_runVN (As := []) (rest := []) ⟨hx, hb, hml, hown, hts⟩ (c_X0_payPart l G y a b n la (bPA L n pd k) H.size k hkn (pd k) (by rw [bPA_o k (Nat.le_refl k)]; exact (hpd k hkn).1) (hpd k hkn).2) ⟨va_cnB (host := "FundBook") 0 hts gX2_payParts_X0_payPart_n214 rfl rfl rfl (hK.nw (by decide +kernel)) (hts (.initialized RX0) (by decide +kernel)) (by decide +kernel) ⟨Nat.le_of_ble_eq_true rfl, Nat.le_of_ble_eq_true rfl⟩, hts (.instanceMethod yX0_payPart) (by decide +kernel), hts (.selects RX0 yX0_payPart yX0_payPart) (by decide +kernel)⟩ ⟨mP_bl, va_recv hK.1 hP (ci := 0) (q0 := 17 + 3 * k) rfl ((bkW_get hkn 0 (by decide)).trans rfl), fun U hU hW => ⟨rfl, by rw [hU], by rw [hU]; exact hP, Kb.moved hW hK, hD.weaken (fun _ _ _ _ => trivial)⟩⟩ rfl rfl hl.1 rfl (lv_room (Nat.le_of_ble_eq_true rfl)) dX2_payParts_27 ⟨Nat.le_of_ble_eq_true rfl, Nat.le_of_ble_eq_true rfl⟩) hS (freeW hD hS hA) (freeW hD hS hA) (fun _ H locs _ hP hD _ _ hS => ?_)
      refine W.eq (g2 := F0 m 30 ls []) rfl ?_
      have hP : va_P G vwCl (bkW y a b n la (bPP (bPA L n pd k) k (pd k))) H := hP
      have hD : va_D A (bkW y a b n la (bPP (bPA L n pd k) k (pd k))) := hD
      refine lv_iinc (v := (nI (k + 1))) (lv' := [(3, .int (nI (k + 1))), (4, .ref (la k 0)), (0, .ref (a 13)), (1, .ref (a 5)), (2, .int 24)]) hx hb dX2_payParts_30 hl (k := 4) rfl iinc1 (by decide) rfl (fun ls hl => ?_)
      refine lv_goto (tgt := 10) hx hb dX2_payParts_33 (by decide) ?_
      have hP : va_P G vwCl (bkW y a b n la (bPA L n pd (k + 1))) H := by rw [bPA, if_pos hkn]; exact hP
      have hD : va_D A (bkW y a b n la (bPA L n pd (k + 1))) := by rw [bPA, if_pos hkn]; exact hD
      exact ih_k _ _ ls hP hD hS (lv_sub hl [2, 3, 4, 0] rfl)
    · refine lv_optN (if_neg (Nat.not_lt.mpr hkn)) ?_
      refine lv_astoreN (lv' := [(4, .null), (0, .ref (a 13)), (1, .ref (a 5)), (2, .int 24), (3, .int (nI k))]) hx hb dX2_payParts_18 hl (by decide) rfl (fun ls hl => ?_)
      refine lv_aloadN hx hb dX2_payParts_20 (lv_at hl 0 rfl) ?_
      refine lv_ifnullN (tgt := 30) hx hb dX2_payParts_22 (by decide) ?_
      refine lv_iinc (v := (nI (k + 1))) (lv' := [(3, .int (nI (k + 1))), (4, .null), (0, .ref (a 13)), (1, .ref (a 5)), (2, .int 24)]) hx hb dX2_payParts_30 hl (k := 4) rfl iinc1 (by decide) rfl (fun ls hl => ?_)
      refine lv_goto (tgt := 10) hx hb dX2_payParts_33 (by decide) ?_
      have hP : va_P G vwCl (bkW y a b n la (bPA L n pd (k + 1))) H := by rw [bPA, if_neg (Nat.not_lt.mpr hkn)]; exact hP
      have hD : va_D A (bkW y a b n la (bPA L n pd (k + 1))) := by rw [bPA, if_neg (Nat.not_lt.mpr hkn)]; exact hD
      exact ih_k _ _ ls hP hD hS (lv_sub hl [2, 3, 4, 0] rfl)
  · have hl : lv_has ls 5 [(0, .ref (a 13)), (1, .ref (a 5)), (2, .int 24), (3, .int (nI 24))] := hl
    have hP : va_P G vwCl (bkW y a b n la (bPA L n pd 24)) H := hP
    have hD : va_D A (bkW y a b n la (bPA L n pd 24)) := hD
    refine lv_iload_n hx hb dX2_payParts_10 rfl (lv_at hl 3 rfl) ?_
    refine lv_iload_n hx hb dX2_payParts_11 rfl (lv_at hl 2 rfl) ?_
    refine lv_icmp_ge (tgt := 36) hx hb dX2_payParts_12 (by decide) (fun c_12 => ?_) (fun c_12 => absurd (nI_le (Nat.le_refl 24) (by decide)) c_12)
    exact W.vret hx hb hr (fun t ht hW => ⟨⟨(), rfl, trivial, by rw [ht]; exact hP, by exact hD⟩, hS.F ht⟩) hS.2.2 dX2_payParts_36
set_option maxHeartbeats 4000000 in
set_option maxRecDepth 100000 in
theorem c_X2_reckonLoans (l : Launch) (G : va_G) (y : Nat → ClassId) (a : Nat → Nat) (b : MS) (n : Nat) (la : Nat → Nat → Nat) (L : LNS) (sz : Nat) (pd : Nat → Nat) (hpd : ∀ k, k < n → L k 0 7 = nI (pd k) ∧ pd k ≤ 6) (t : Nat) (ht : b 13 4 = nI t) (ht46 : t < 47) : Met l yX2_reckonLoans wsX2_reckonLoans ({ frames := 4, cells := 0, slots := 0, locals := 90 }) (mP G y [.ref (a 13)] (bkW y a b n la L) sz) (mQ G (fun _ : Unit => none) (fun _ => True) (fun _ => bkW y a (bR3 b t n L pd) n la L) (va_A (bkW y a b n la L) sz)) 0 0 (va_A (bkW y a b n la L) sz) := by
  refine Met.ofW (cc := cX2_reckonLoans) (maxL := 7) (ret := none) (by decide) rfl ?_
  intro p e s m args below meth c s₁ B hml hv
  obtain ⟨rfl, hsz, hP, hK, hD0⟩ := hv
  have hx := B.exec
  have hb := B.bytes
  have hr := B.returns
  have hts := atoms_spec (ws := wsX2_reckonLoans) B.pre
  have hown : s.vm.findClass RX2 = some m.cls := findClass_of_methodNamed B.named
  have hlocks := B.notSynchronized
  subst hsz
  have hD := hD0.self (sz := s.heap.size)
  generalize hAe : va_A (bkW y a b n la L) s.heap.size = A at hD ⊢
  have hA : ∀ q : Nat, s.heap.size ≤ q → A q := fun q h => by rw [← hAe]; exact Or.inr h
  have hS : va_S A s.heap s.heap [] := va_S.rf
  have hP : va_P G vwCl (bkW y a b n la L) s.heap := hP
  have hl := lv_entry ([.ref (a 13)]) (n := 7) (Nat.le_of_ble_eq_true rfl)
  rw [lg_entry_eq]
  generalize (lg_sl ([.ref (a 13)]) ++ List.replicate (7 - (lg_sl ([.ref (a 13)])).length) Slot.unset).toArray = ls at hl ⊢
  have hin2 : ∀ w ∈ wsX20, w ∈ wsX2_reckonLoans := by decide +kernel
  have hl : lv_has ls 7 [(0, .ref (a 13))] := hl
  refine lv_iconst (v := 0) hx hb dX2_reckonLoans_0 (by decide) ?_
  refine lv_istore_n (lv' := [(1, .int 0), (0, .ref (a 13))]) hx hb dX2_reckonLoans_1 rfl hl (by decide) rfl (fun ls hl => ?_)
  refine loopM (LV := fun k => [(0, .ref (a 13)), (1, .int (nI k))]) (WS := fun k => bkW y a (bR1 b t n L pd k) n la L) 3 hP hD hS (lv_sub hl [1, 0] rfl) (fun k H locs ls hk_k hP hD hS hl ih_k => ?_) (fun H locs ls hP hD hS hl => ?_)
  · have hl : lv_has ls 7 [(0, .ref (a 13)), (1, .int (nI k))] := hl
    have hP : va_P G vwCl (bkW y a (bR1 b t n L pd k) n la L) H := hP
    have hD : va_D A (bkW y a (bR1 b t n L pd k) n la L) := hD
    refine lv_iload_n hx hb dX2_reckonLoans_2 rfl (lv_at hl 1 rfl) ?_
    refine lv_iconst (v := 3) hx hb dX2_reckonLoans_3 (by decide) ?_
    refine lv_icmp_ge (tgt := 29) hx hb dX2_reckonLoans_4 (by decide) (fun c_4 => absurd c_4 (nI_ge hk_k (by decide))) (fun c_4 => ?_)
    refine lv_aload_n hx hb dX2_reckonLoans_7 rfl (lv_at hl 0 rfl) ?_
    refine bkG (b := (bR1 b t n L pd k)) (val := .ref (a 9)) hx hb hts hin2 hown hK hP 9 (by decide) (hts (.fieldLink RX2 47 "FundBook" "branchMargins" "[[I") (by decide +kernel)) rfl dX2_reckonLoans_8 ?_
    refine lv_iload_n hx hb dX2_reckonLoans_11 rfl (lv_at hl 1 rfl) ?_
    refine ldA (f := fun i => if i < 3 then some (a (16 + i)) else none) hx hb hK hP 7 bg_9 k rfl (by omega) (by decide) dX2_reckonLoans_12 ?_
    refine lv_optS (x := a (16 + k)) (if_pos (by omega)) ?_
    refine lv_aload_n hx hb dX2_reckonLoans_13 rfl (lv_at hl 0 rfl) ?_
    refine bkG (b := (bR1 b t n L pd k)) (val := .int ((bR1 b t n L pd k) 13 4)) hx hb hts hin2 hown hK hP 4 (by decide) (hts (.fieldLink RX2 23 "FundBook" "now" "I") (by decide +kernel)) rfl dX2_reckonLoans_14 ?_
    refine lv_topE (z := nI t) (by rw [bR1_o _ (by omega) (by omega)]; exact ht) ?_
    refine lv_aload_n hx hb dX2_reckonLoans_17 rfl (lv_at hl 0 rfl) ?_
    refine lv_iload_n hx hb dX2_reckonLoans_18 rfl (lv_at hl 1 rfl) ?_
    refine caR (r := .int (bLM n L pd 0 (nI k))) (va_runV (As := [.int (nI k)]) (rest := [.int (nI t), .ref (a (16 + k))]) ⟨hx, hb, hml, hown, hts⟩ (c_X2_loanMarginsOfBranch l G y a (bR1 b t n L pd k) n la L pd hpd (nI k)) (cwV 1 hts gX2_reckonLoans_X2_loanMarginsOfBranch rfl rfl rfl (by decide +kernel) ⟨Nat.le_of_ble_eq_true rfl, Nat.le_of_ble_eq_true rfl⟩) ⟨rP_bl, va_recv hK.1 hP (ci := 2) (q0 := 0) rfl rfl, fun U hU hW => ⟨rfl, by rw [hU]; exact hP, Kb.moved hW hK⟩⟩ rfl rfl hl.1 rfl (lv_room (Nat.le_of_ble_eq_true rfl)) dX2_reckonLoans_19 ⟨Nat.le_of_ble_eq_true rfl, Nat.le_of_ble_eq_true rfl⟩) ?_
    refine stI (f := (bR1 b t n L pd k) (16 + k)) (ws1 := bkW y a (u2 (bR1 b t n L pd k) (16 + k) t (bLM n L pd 0 (nI k))) n la L) hx hb hK hP hD hS (8 + k) (bg_M (by omega)) t rfl (by omega) (by decide) (bs_M (by omega)) dX2_reckonLoans_22 (fun H locs hP hD hS => ?_)
    refine lv_iinc (v := (nI (k + 1))) (lv' := [(1, .int (nI (k + 1))), (0, .ref (a 13))]) hx hb dX2_reckonLoans_23 hl (k := 1) rfl iinc1 (by decide) rfl (fun ls hl => ?_)
    refine lv_goto (tgt := 2) hx hb dX2_reckonLoans_26 (by decide) ?_
    have hP : va_P G vwCl (bkW y a (bR1 b t n L pd (k + 1)) n la L) H := by rw [bR1]; exact hP
    have hD : va_D A (bkW y a (bR1 b t n L pd (k + 1)) n la L) := by rw [bR1]; exact hD
    exact ih_k _ _ ls hP hD hS (lv_sub hl [1, 0] rfl)
  · have hl : lv_has ls 7 [(0, .ref (a 13)), (1, .int (nI 3))] := hl
    have hP : va_P G vwCl (bkW y a (bR1 b t n L pd 3) n la L) H := hP
    have hD : va_D A (bkW y a (bR1 b t n L pd 3) n la L) := hD
    refine lv_iload_n hx hb dX2_reckonLoans_2 rfl (lv_at hl 1 rfl) ?_
    refine lv_iconst (v := 3) hx hb dX2_reckonLoans_3 (by decide) ?_
    refine lv_icmp_ge (tgt := 29) hx hb dX2_reckonLoans_4 (by decide) (fun c_4 => ?_) (fun c_4 => absurd (nI_le (Nat.le_refl 3) (by decide)) c_4)
    refine lv_iconst (v := 0) hx hb dX2_reckonLoans_29 (by decide) ?_
    refine lv_istore_n (lv' := [(1, .int 0), (0, .ref (a 13))]) hx hb dX2_reckonLoans_30 rfl hl (by decide) rfl (fun ls hl => ?_)
    refine loopM (LV := fun k => [(0, .ref (a 13)), (1, .int (nI k))]) (WS := fun k => bkW y a (bR2 (bR1 b t n L pd 3) t n L pd k) n la L) 3 hP hD hS (lv_sub hl [1, 0] rfl) (fun k H locs ls hk_k hP hD hS hl ih_k => ?_) (fun H locs ls hP hD hS hl => ?_)
    · have hl : lv_has ls 7 [(0, .ref (a 13)), (1, .int (nI k))] := hl
      have hP : va_P G vwCl (bkW y a (bR2 (bR1 b t n L pd 3) t n L pd k) n la L) H := hP
      have hD : va_D A (bkW y a (bR2 (bR1 b t n L pd 3) t n L pd k) n la L) := hD
      refine lv_iload_n hx hb dX2_reckonLoans_31 rfl (lv_at hl 1 rfl) ?_
      refine lv_iconst (v := 3) hx hb dX2_reckonLoans_32 (by decide) ?_
      refine lv_icmp_ge (tgt := 58) hx hb dX2_reckonLoans_33 (by decide) (fun c_33 => absurd c_33 (nI_ge hk_k (by decide))) (fun c_33 => ?_)
      refine lv_aload_n hx hb dX2_reckonLoans_36 rfl (lv_at hl 0 rfl) ?_
      refine bkG (b := (bR2 (bR1 b t n L pd 3) t n L pd k)) (val := .ref (a 10)) hx hb hts hin2 hown hK hP 10 (by decide) (hts (.fieldLink RX2 50 "FundBook" "productMargins" "[[I") (by decide +kernel)) rfl dX2_reckonLoans_37 ?_
      refine lv_iload_n hx hb dX2_reckonLoans_40 rfl (lv_at hl 1 rfl) ?_
      refine ldA (f := fun i => if i < 3 then some (a (19 + i)) else none) hx hb hK hP 11 bg_10 k rfl (by omega) (by decide) dX2_reckonLoans_41 ?_
      refine lv_optS (x := a (19 + k)) (if_pos (by omega)) ?_
      refine lv_aload_n hx hb dX2_reckonLoans_42 rfl (lv_at hl 0 rfl) ?_
      refine bkG (b := (bR2 (bR1 b t n L pd 3) t n L pd k)) (val := .int ((bR2 (bR1 b t n L pd 3) t n L pd k) 13 4)) hx hb hts hin2 hown hK hP 4 (by decide) (hts (.fieldLink RX2 23 "FundBook" "now" "I") (by decide +kernel)) rfl dX2_reckonLoans_43 ?_
      refine lv_topE (z := nI t) (by rw [bR2_o _ (by omega) (by omega), bR1_o _ (by omega) (by omega)]; exact ht) ?_
      refine lv_aload_n hx hb dX2_reckonLoans_46 rfl (lv_at hl 0 rfl) ?_
      refine lv_iload_n hx hb dX2_reckonLoans_47 rfl (lv_at hl 1 rfl) ?_
      refine caR (r := .int (bLM n L pd 1 (nI k))) (va_runV (As := [.int (nI k)]) (rest := [.int (nI t), .ref (a (19 + k))]) ⟨hx, hb, hml, hown, hts⟩ (c_X2_loanMarginsOfProduct l G y a (bR2 (bR1 b t n L pd 3) t n L pd k) n la L pd hpd (nI k)) (cwV 1 hts gX2_reckonLoans_X2_loanMarginsOfProduct rfl rfl rfl (by decide +kernel) ⟨Nat.le_of_ble_eq_true rfl, Nat.le_of_ble_eq_true rfl⟩) ⟨rP_bl, va_recv hK.1 hP (ci := 2) (q0 := 0) rfl rfl, fun U hU hW => ⟨rfl, by rw [hU]; exact hP, Kb.moved hW hK⟩⟩ rfl rfl hl.1 rfl (lv_room (Nat.le_of_ble_eq_true rfl)) dX2_reckonLoans_48 ⟨Nat.le_of_ble_eq_true rfl, Nat.le_of_ble_eq_true rfl⟩) ?_
      refine stI (f := (bR2 (bR1 b t n L pd 3) t n L pd k) (19 + k)) (ws1 := bkW y a (u2 (bR2 (bR1 b t n L pd 3) t n L pd k) (19 + k) t (bLM n L pd 1 (nI k))) n la L) hx hb hK hP hD hS (12 + k) (bg_P (by omega)) t rfl (by omega) (by decide) (bs_P (by omega)) dX2_reckonLoans_51 (fun H locs hP hD hS => ?_)
      refine lv_iinc (v := (nI (k + 1))) (lv' := [(1, .int (nI (k + 1))), (0, .ref (a 13))]) hx hb dX2_reckonLoans_52 hl (k := 1) rfl iinc1 (by decide) rfl (fun ls hl => ?_)
      refine lv_goto (tgt := 31) hx hb dX2_reckonLoans_55 (by decide) ?_
      have hP : va_P G vwCl (bkW y a (bR2 (bR1 b t n L pd 3) t n L pd (k + 1)) n la L) H := by rw [bR2]; exact hP
      have hD : va_D A (bkW y a (bR2 (bR1 b t n L pd 3) t n L pd (k + 1)) n la L) := by rw [bR2]; exact hD
      exact ih_k _ _ ls hP hD hS (lv_sub hl [1, 0] rfl)
    · have hl : lv_has ls 7 [(0, .ref (a 13)), (1, .int (nI 3))] := hl
      have hP : va_P G vwCl (bkW y a (bR2 (bR1 b t n L pd 3) t n L pd 3) n la L) H := hP
      have hD : va_D A (bkW y a (bR2 (bR1 b t n L pd 3) t n L pd 3) n la L) := hD
      refine lv_iload_n hx hb dX2_reckonLoans_31 rfl (lv_at hl 1 rfl) ?_
      refine lv_iconst (v := 3) hx hb dX2_reckonLoans_32 (by decide) ?_
      refine lv_icmp_ge (tgt := 58) hx hb dX2_reckonLoans_33 (by decide) (fun c_33 => ?_) (fun c_33 => absurd (nI_le (Nat.le_refl 3) (by decide)) c_33)
      refine lv_iconst (v := 0) hx hb dX2_reckonLoans_58 (by decide) ?_
      refine lv_istore_n (lv' := [(1, .int 0), (0, .ref (a 13))]) hx hb dX2_reckonLoans_59 rfl hl (by decide) rfl (fun ls hl => ?_)
      refine lv_iconst (v := 0) hx hb dX2_reckonLoans_60 (by decide) ?_
      refine lv_istore_n (lv' := [(2, .int 0), (1, .int 0), (0, .ref (a 13))]) hx hb dX2_reckonLoans_61 rfl hl (by decide) rfl (fun ls hl => ?_)
      refine lv_aload_n hx hb dX2_reckonLoans_62 rfl (lv_at hl 2 rfl) ?_
      refine bkG (b := (bR2 (bR1 b t n L pd 3) t n L pd 3)) (val := .ref (a 5)) hx hb hts hin2 hown hK hP 5 (by decide) (hts (.fieldLink RX2 28 "FundBook" "loanRows" "[LFundBook$Loan;") (by decide +kernel)) rfl dX2_reckonLoans_63 ?_
      refine lv_astore_n (lv' := [(3, .ref (a 5)), (2, .int 0), (1, .int 0), (0, .ref (a 13))]) hx hb dX2_reckonLoans_66 rfl hl (by decide) rfl (fun ls hl => ?_)
      refine lv_aload_n hx hb dX2_reckonLoans_67 rfl (lv_at hl 0 rfl) ?_
      refine va_alen (v := 24) hx hb hK.1 hP 2 2 bg_5 rfl rfl dX2_reckonLoans_68 ?_
      refine lv_istore (lv' := [(4, .int 24), (3, .ref (a 5)), (2, .int 0), (1, .int 0), (0, .ref (a 13))]) hx hb dX2_reckonLoans_69 hl (by decide) rfl (fun ls hl => ?_)
      refine lv_iconst (v := 0) hx hb dX2_reckonLoans_71 (by decide) ?_
      refine lv_istore (lv' := [(5, .int 0), (4, .int 24), (3, .ref (a 5)), (2, .int 0), (1, .int 0), (0, .ref (a 13))]) hx hb dX2_reckonLoans_72 hl (by decide) rfl (fun ls hl => ?_)
      refine loopW (LV := fun k => [(0, .ref (a 13)), (3, .ref (a 5)), (4, .int 24), (1, .int (S32 (bSm n (bTr L pd)) k)), (2, .int (S32 (bSm n (bCu L pd)) k)), (5, .int (nI k))]) 24 (lv_sub hl [5, 2, 1, 4, 3, 0] rfl) (fun k ls hk_k hl ih_k => ?_) (fun ls hl => ?_)
      · have hl : lv_has ls 7 [(0, .ref (a 13)), (3, .ref (a 5)), (4, .int 24), (1, .int (S32 (bSm n (bTr L pd)) k)), (2, .int (S32 (bSm n (bCu L pd)) k)), (5, .int (nI k))] := hl
        refine lv_iload hx hb dX2_reckonLoans_74 (lv_at hl 5 rfl) ?_
        refine lv_iload hx hb dX2_reckonLoans_76 (lv_at hl 2 rfl) ?_
        refine lv_icmp_ge (tgt := 120) hx hb dX2_reckonLoans_78 (by decide) (fun c_78 => absurd c_78 (nI_ge hk_k (by decide))) (fun c_78 => ?_)
        refine lv_aload_n hx hb dX2_reckonLoans_81 rfl (lv_at hl 1 rfl) ?_
        refine lv_iload hx hb dX2_reckonLoans_82 (lv_at hl 5 rfl) ?_
        refine ldQ (f := lrF n la) hx hb hK hP 2 bg_5 k rfl (by omega) (by decide) dX2_reckonLoans_84 ?_
        rcases Nat.lt_or_ge k n with hkn | hkn
        · refine lv_optS (if_pos hkn) ?_
          refine lv_astore (lv' := [(6, .ref (la k 0)), (0, .ref (a 13)), (3, .ref (a 5)), (4, .int 24), (1, .int (S32 (bSm n (bTr L pd)) k)), (2, .int (S32 (bSm n (bCu L pd)) k)), (5, .int (nI k))]) hx hb dX2_reckonLoans_85 hl (by decide) rfl (fun ls hl => ?_)
          refine lv_aload hx hb dX2_reckonLoans_87 (lv_at hl 0 rfl) ?_
          refine lv_ifnull hx hb dX2_reckonLoans_89 ?_
          refine lv_iload_n hx hb dX2_reckonLoans_92 rfl (lv_at hl 4 rfl) ?_
          refine lv_aload hx hb dX2_reckonLoans_93 (lv_at hl 0 rfl) ?_
          refine caR (r := .int (lFund (L k) (pd k))) (va_runVN (As := []) (rest := [.int (S32 (bSm n (bTr L pd)) k)]) ⟨hx, hb, hml, hown, hts⟩ (c_X0_funding l G y la L k (pd k) (hpd k hkn).1 (hpd k hkn).2) ⟨va_cnB (host := "FundBook") 0 hts gX2_reckonLoans_X0_funding_n152 rfl rfl rfl (hK.nw (by decide +kernel)) (hts (.initialized RX0) (by decide +kernel)) (by decide +kernel) ⟨Nat.le_of_ble_eq_true rfl, Nat.le_of_ble_eq_true rfl⟩, hts (.instanceMethod yX0_funding) (by decide +kernel), hts (.selects RX0 yX0_funding yX0_funding) (by decide +kernel)⟩ ⟨rP_bl, va_recv hK.1 (bk_ln hP hkn) (ci := 0) (q0 := 0) rfl rfl, fun U hU hW => ⟨rfl, by rw [hU]; exact (bk_ln hP hkn), Kb.moved hW hK⟩⟩ rfl rfl hl.1 rfl (lv_room (Nat.le_of_ble_eq_true rfl)) dX2_reckonLoans_95 ⟨Nat.le_of_ble_eq_true rfl, Nat.le_of_ble_eq_true rfl⟩) ?_
          refine lv_aload hx hb dX2_reckonLoans_98 (lv_at hl 0 rfl) ?_
          refine caR (r := .int (lOpt (L k) (pd k))) (va_runVN (As := []) (rest := [.int (lFund (L k) (pd k)), .int (S32 (bSm n (bTr L pd)) k)]) ⟨hx, hb, hml, hown, hts⟩ (c_X0_optionCharge l G y la L k (pd k) (hpd k hkn).1 (hpd k hkn).2) ⟨va_cnB (host := "FundBook") 0 hts gX2_reckonLoans_X0_optionCharge_n155 rfl rfl rfl (hK.nw (by decide +kernel)) (hts (.initialized RX0) (by decide +kernel)) (by decide +kernel) ⟨Nat.le_of_ble_eq_true rfl, Nat.le_of_ble_eq_true rfl⟩, hts (.instanceMethod yX0_optionCharge) (by decide +kernel), hts (.selects RX0 yX0_optionCharge yX0_optionCharge) (by decide +kernel)⟩ ⟨rP_bl, va_recv hK.1 (bk_ln hP hkn) (ci := 0) (q0 := 0) rfl rfl, fun U hU hW => ⟨rfl, by rw [hU]; exact (bk_ln hP hkn), Kb.moved hW hK⟩⟩ rfl rfl hl.1 rfl (lv_room (Nat.le_of_ble_eq_true rfl)) dX2_reckonLoans_100 ⟨Nat.le_of_ble_eq_true rfl, Nat.le_of_ble_eq_true rfl⟩) ?_
          refine lv_iadd hx hb dX2_reckonLoans_103 ?_
          refine lv_iadd hx hb dX2_reckonLoans_104 ?_
          refine lv_topE (z := S32 (bSm n (bTr L pd)) (k + 1)) (bSm_s (F := bTr L pd) hkn) ?_
          refine lv_istore_n (lv' := [(1, .int (S32 (bSm n (bTr L pd)) (k + 1))), (6, .ref (la k 0)), (0, .ref (a 13)), (3, .ref (a 5)), (4, .int 24), (2, .int (S32 (bSm n (bCu L pd)) k)), (5, .int (nI k))]) hx hb dX2_reckonLoans_105 rfl hl (by decide) rfl (fun ls hl => ?_)
          refine lv_iload_n hx hb dX2_reckonLoans_106 rfl (lv_at hl 5 rfl) ?_
          refine lv_aload hx hb dX2_reckonLoans_107 (lv_at hl 1 rfl) ?_
          refine caR (r := .int (lCust (L k) (pd k))) (va_runVN (As := []) (rest := [.int (S32 (bSm n (bCu L pd)) k)]) ⟨hx, hb, hml, hown, hts⟩ (c_X0_customerInterest l G y la L k (pd k) (hpd k hkn).1 (hpd k hkn).2) ⟨va_cnB (host := "FundBook") 0 hts gX2_reckonLoans_X0_customerInterest_n149 rfl rfl rfl (hK.nw (by decide +kernel)) (hts (.initialized RX0) (by decide +kernel)) (by decide +kernel) ⟨Nat.le_of_ble_eq_true rfl, Nat.le_of_ble_eq_true rfl⟩, hts (.instanceMethod yX0_customerInterest) (by decide +kernel), hts (.selects RX0 yX0_customerInterest yX0_customerInterest) (by decide +kernel)⟩ ⟨rP_bl, va_recv hK.1 (bk_ln hP hkn) (ci := 0) (q0 := 0) rfl rfl, fun U hU hW => ⟨rfl, by rw [hU]; exact (bk_ln hP hkn), Kb.moved hW hK⟩⟩ rfl rfl hl.1 rfl (lv_room (Nat.le_of_ble_eq_true rfl)) dX2_reckonLoans_109 ⟨Nat.le_of_ble_eq_true rfl, Nat.le_of_ble_eq_true rfl⟩) ?_
          refine lv_iadd hx hb dX2_reckonLoans_112 ?_
          refine lv_topE (z := S32 (bSm n (bCu L pd)) (k + 1)) (bSm_s (F := bCu L pd) hkn) ?_
          refine lv_istore_n (lv' := [(2, .int (S32 (bSm n (bCu L pd)) (k + 1))), (1, .int (S32 (bSm n (bTr L pd)) (k + 1))), (6, .ref (la k 0)), (0, .ref (a 13)), (3, .ref (a 5)), (4, .int 24), (5, .int (nI k))]) hx hb dX2_reckonLoans_113 rfl hl (by decide) rfl (fun ls hl => ?_)
          refine lv_iinc (v := (nI (k + 1))) (lv' := [(5, .int (nI (k + 1))), (2, .int (S32 (bSm n (bCu L pd)) (k + 1))), (1, .int (S32 (bSm n (bTr L pd)) (k + 1))), (6, .ref (la k 0)), (0, .ref (a 13)), (3, .ref (a 5)), (4, .int 24)]) hx hb dX2_reckonLoans_114 hl (k := 6) rfl iinc1 (by decide) rfl (fun ls hl => ?_)
          refine lv_goto (tgt := 74) hx hb dX2_reckonLoans_117 (by decide) ?_
          exact ih_k ls (lv_sub hl [4, 5, 6, 2, 1, 0] rfl)
        · refine lv_optN (if_neg (Nat.not_lt.mpr hkn)) ?_
          refine lv_astoreN (lv' := [(6, .null), (0, .ref (a 13)), (3, .ref (a 5)), (4, .int 24), (1, .int (S32 (bSm n (bTr L pd)) k)), (2, .int (S32 (bSm n (bCu L pd)) k)), (5, .int (nI k))]) hx hb dX2_reckonLoans_85 hl (by decide) rfl (fun ls hl => ?_)
          refine lv_aloadN hx hb dX2_reckonLoans_87 (lv_at hl 0 rfl) ?_
          refine lv_ifnullN (tgt := 114) hx hb dX2_reckonLoans_89 (by decide) ?_
          refine lv_iinc (v := (nI (k + 1))) (lv' := [(5, .int (nI (k + 1))), (6, .null), (0, .ref (a 13)), (3, .ref (a 5)), (4, .int 24), (1, .int (S32 (bSm n (bTr L pd)) k)), (2, .int (S32 (bSm n (bCu L pd)) k))]) hx hb dX2_reckonLoans_114 hl (k := 6) rfl iinc1 (by decide) rfl (fun ls hl => ?_)
          refine lv_goto (tgt := 74) hx hb dX2_reckonLoans_117 (by decide) ?_
          exact ih_k ls (by show lv_has ls 7 _; rw [bSm_k hkn, bSm_k hkn]; exact lv_sub hl [2, 3, 4, 5, 6, 0] rfl)
      · have hl : lv_has ls 7 [(0, .ref (a 13)), (3, .ref (a 5)), (4, .int 24), (1, .int (S32 (bSm n (bTr L pd)) 24)), (2, .int (S32 (bSm n (bCu L pd)) 24)), (5, .int (nI 24))] := hl
        refine lv_iload hx hb dX2_reckonLoans_74 (lv_at hl 5 rfl) ?_
        refine lv_iload hx hb dX2_reckonLoans_76 (lv_at hl 2 rfl) ?_
        refine lv_icmp_ge (tgt := 120) hx hb dX2_reckonLoans_78 (by decide) (fun c_78 => ?_) (fun c_78 => absurd (nI_le (Nat.le_refl 24) (by decide)) c_78)
        refine lv_aload_n hx hb dX2_reckonLoans_120 rfl (lv_at hl 0 rfl) ?_
        refine bkG (b := (bR2 (bR1 b t n L pd 3) t n L pd 3)) (val := .ref (a 11)) hx hb hts hin2 hown hK hP 11 (by decide) (hts (.fieldLink RX2 53 "FundBook" "treasuryMargins" "[I") (by decide +kernel)) rfl dX2_reckonLoans_121 ?_
        refine lv_aload_n hx hb dX2_reckonLoans_124 rfl (lv_at hl 0 rfl) ?_
        refine bkG (b := (bR2 (bR1 b t n L pd 3) t n L pd 3)) (val := .int ((bR2 (bR1 b t n L pd 3) t n L pd 3) 13 4)) hx hb hts hin2 hown hK hP 4 (by decide) (hts (.fieldLink RX2 23 "FundBook" "now" "I") (by decide +kernel)) rfl dX2_reckonLoans_125 ?_
        refine lv_topE (z := nI t) (by rw [bR2_o _ (by omega) (by omega), bR1_o _ (by omega) (by omega)]; exact ht) ?_
        refine lv_iload_n hx hb dX2_reckonLoans_128 rfl (lv_at hl 3 rfl) ?_
        refine stI (f := (bR2 (bR1 b t n L pd 3) t n L pd 3) 11) (ws1 := bkW y a (u2 (bR2 (bR1 b t n L pd 3) t n L pd 3) 11 t (S32 (bSm n (bTr L pd)) 24)) n la L) hx hb hK hP hD hS 15 bg_11 t rfl (by omega) (by decide) bs_11 dX2_reckonLoans_129 (fun H locs hP hD hS => ?_)
        refine lv_aload_n hx hb dX2_reckonLoans_130 rfl (lv_at hl 0 rfl) ?_
        refine bkG (b := (u2 (bR2 (bR1 b t n L pd 3) t n L pd 3) 11 t (S32 (bSm n (bTr L pd)) 24))) (val := .ref (a 12)) hx hb hts hin2 hown hK hP 12 (by decide) (hts (.fieldLink RX2 56 "FundBook" "bankInterests" "[I") (by decide +kernel)) rfl dX2_reckonLoans_131 ?_
        refine lv_aload_n hx hb dX2_reckonLoans_134 rfl (lv_at hl 0 rfl) ?_
        refine bkG (b := (u2 (bR2 (bR1 b t n L pd 3) t n L pd 3) 11 t (S32 (bSm n (bTr L pd)) 24))) (val := .int ((u2 (bR2 (bR1 b t n L pd 3) t n L pd 3) 11 t (S32 (bSm n (bTr L pd)) 24)) 13 4)) hx hb hts hin2 hown hK hP 4 (by decide) (hts (.fieldLink RX2 23 "FundBook" "now" "I") (by decide +kernel)) rfl dX2_reckonLoans_135 ?_
        refine lv_topE (z := nI t) (by rw [u2_j (by omega), bR2_o _ (by omega) (by omega), bR1_o _ (by omega) (by omega)]; exact ht) ?_
        refine lv_iload_n hx hb dX2_reckonLoans_138 rfl (lv_at hl 4 rfl) ?_
        refine stI (f := (u2 (bR2 (bR1 b t n L pd 3) t n L pd 3) 11 t (S32 (bSm n (bTr L pd)) 24)) 12) (ws1 := bkW y a (u2 (u2 (bR2 (bR1 b t n L pd 3) t n L pd 3) 11 t (S32 (bSm n (bTr L pd)) 24)) 12 t (S32 (bSm n (bCu L pd)) 24)) n la L) hx hb hK hP hD hS 16 bg_12 t rfl (by omega) (by decide) bs_12 dX2_reckonLoans_139 (fun H locs hP hD hS => ?_)
        exact W.vret hx hb hr (fun t ht hW => ⟨⟨(), rfl, trivial, by rw [ht]; exact hP, by exact hD⟩, hS.F ht⟩) hS.2.2 dX2_reckonLoans_140
set_option maxHeartbeats 4000000 in
set_option maxRecDepth 100000 in
theorem c_X2_reckonDeposits (l : Launch) (G : va_G) (y : Nat → ClassId) (a : Nat → Nat) (b : MS) (n : Nat) (la : Nat → Nat → Nat) (L : LNS) (sz : Nat) (t : Nat) (ht : b 13 4 = nI t) (ht46 : t < 47) : Met l yX2_reckonDeposits wsX2_reckonDeposits ({ frames := 2, cells := 0, slots := 0, locals := 46 }) (mP G y [.ref (a 13)] (bkW y a b n la L) sz) (mQ G (fun _ : Unit => none) (fun _ => True) (fun _ => bkW y a (bD1 b t 3) n la L) (va_A (bkW y a b n la L) sz)) 0 0 (va_A (bkW y a b n la L) sz) := by
  refine Met.ofW (cc := cX2_reckonDeposits) (maxL := 5) (ret := none) (by decide) rfl ?_
  intro p e s m args below meth c s₁ B hml hv
  obtain ⟨rfl, hsz, hP, hK, hD0⟩ := hv
  have hx := B.exec
  have hb := B.bytes
  have hr := B.returns
  have hts := atoms_spec (ws := wsX2_reckonDeposits) B.pre
  have hown : s.vm.findClass RX2 = some m.cls := findClass_of_methodNamed B.named
  have hlocks := B.notSynchronized
  subst hsz
  have hD := hD0.self (sz := s.heap.size)
  generalize hAe : va_A (bkW y a b n la L) s.heap.size = A at hD ⊢
  have hA : ∀ q : Nat, s.heap.size ≤ q → A q := fun q h => by rw [← hAe]; exact Or.inr h
  have hS : va_S A s.heap s.heap [] := va_S.rf
  have hP : va_P G vwCl (bkW y a b n la L) s.heap := hP
  have hl := lv_entry ([.ref (a 13)]) (n := 5) (Nat.le_of_ble_eq_true rfl)
  rw [lg_entry_eq]
  generalize (lg_sl ([.ref (a 13)]) ++ List.replicate (5 - (lg_sl ([.ref (a 13)])).length) Slot.unset).toArray = ls at hl ⊢
  have hin2 : ∀ w ∈ wsX20, w ∈ wsX2_reckonDeposits := by decide +kernel
  have hl : lv_has ls 5 [(0, .ref (a 13))] := hl
  refine lv_aload_n hx hb dX2_reckonDeposits_0 rfl (lv_at hl 0 rfl) ?_
  refine bkG (b := b) (val := .ref (a 8)) hx hb hts hin2 hown hK hP 8 (by decide) (hts (.fieldLink RX2 41 "FundBook" "replica" "LFundBook$Replica;") (by decide +kernel)) rfl dX2_reckonDeposits_1 ?_
  refine caR (r := .int (bAvg b)) (va_runVN (As := []) (rest := []) ⟨hx, hb, hml, hown, hts⟩ (c_X1_averageRate l G y a b) ⟨va_cnB (host := "FundBook") 0 hts gX2_reckonDeposits_X1_averageRate_n174 rfl rfl rfl (hK.nw (by decide +kernel)) (hts (.initialized RX1) (by decide +kernel)) (by decide +kernel) ⟨Nat.le_of_ble_eq_true rfl, Nat.le_of_ble_eq_true rfl⟩, hts (.instanceMethod yX1_averageRate) (by decide +kernel), hts (.selects RX1 yX1_averageRate yX1_averageRate) (by decide +kernel)⟩ ⟨rP_bl, va_recv hK.1 (bk_rp hP) (ci := 1) (q0 := 0) rfl rfl, fun U hU hW => ⟨rfl, by rw [hU]; exact (bk_rp hP), Kb.moved hW hK⟩⟩ rfl rfl hl.1 rfl (lv_room (Nat.le_of_ble_eq_true rfl)) dX2_reckonDeposits_4 ⟨Nat.le_of_ble_eq_true rfl, Nat.le_of_ble_eq_true rfl⟩) ?_
  refine lv_istore_n (lv' := [(1, .int (bAvg b)), (0, .ref (a 13))]) hx hb dX2_reckonDeposits_7 rfl hl (by decide) rfl (fun ls hl => ?_)
  refine lv_iconst (v := 0) hx hb dX2_reckonDeposits_8 (by decide) ?_
  refine lv_istore_n (lv' := [(2, .int 0), (1, .int (bAvg b)), (0, .ref (a 13))]) hx hb dX2_reckonDeposits_9 rfl hl (by decide) rfl (fun ls hl => ?_)
  refine loopM (LV := fun k => [(0, .ref (a 13)), (1, .int (bAvg b)), (2, .int (nI k))]) (WS := fun k => bkW y a (bD1 b t k) n la L) 3 hP hD hS (lv_sub hl [2, 1, 0] rfl) (fun k H locs ls hk_k hP hD hS hl ih_k => ?_) (fun H locs ls hP hD hS hl => ?_)
  · have hl : lv_has ls 5 [(0, .ref (a 13)), (1, .int (bAvg b)), (2, .int (nI k))] := hl
    have hP : va_P G vwCl (bkW y a (bD1 b t k) n la L) H := hP
    have hD : va_D A (bkW y a (bD1 b t k) n la L) := hD
    refine lv_iload_n hx hb dX2_reckonDeposits_10 rfl (lv_at hl 2 rfl) ?_
    refine lv_iconst (v := 3) hx hb dX2_reckonDeposits_11 (by decide) ?_
    refine lv_icmp_ge (tgt := 96) hx hb dX2_reckonDeposits_12 (by decide) (fun c_12 => absurd c_12 (nI_ge hk_k (by decide))) (fun c_12 => ?_)
    refine lv_aload_n hx hb dX2_reckonDeposits_15 rfl (lv_at hl 0 rfl) ?_
    refine lv_aload_n hx hb dX2_reckonDeposits_16 rfl (lv_at hl 0 rfl) ?_
    refine bkG (b := (bD1 b t k)) (val := .ref (a 7)) hx hb hts hin2 hown hK hP 7 (by decide) (hts (.fieldLink RX2 35 "FundBook" "balances" "[I") (by decide +kernel)) rfl dX2_reckonDeposits_17 ?_
    refine lv_iload_n hx hb dX2_reckonDeposits_20 rfl (lv_at hl 2 rfl) ?_
    refine ldI (f := (bD1 b t k) 7) hx hb hK hP 3 bg_7 k rfl (by omega) (by decide) dX2_reckonDeposits_21 ?_
    refine lv_topE (z := b 7 k) (by rw [bD1_o _ (by omega) (by omega) (by omega)]) ?_
    refine lv_iload_n hx hb dX2_reckonDeposits_22 rfl (lv_at hl 1 rfl) ?_
    refine caR (r := .int (bPd (bD1 b t k) (b 7 k) (bAvg b))) (va_runV (As := [.int (b 7 k), .int (bAvg b)]) (rest := []) ⟨hx, hb, hml, hown, hts⟩ (c_X2_paidForDeposits l G y a (bD1 b t k) n la L (b 7 k) (bAvg b)) (cwV 2 hts gX2_reckonDeposits_X2_paidForDeposits rfl rfl rfl (by decide +kernel) ⟨Nat.le_of_ble_eq_true rfl, Nat.le_of_ble_eq_true rfl⟩) ⟨rP_bl, va_recv hK.1 hP (ci := 2) (q0 := 0) rfl rfl, fun U hU hW => ⟨rfl, by rw [hU]; exact hP, Kb.moved hW hK⟩⟩ rfl rfl hl.1 rfl (lv_room (Nat.le_of_ble_eq_true rfl)) dX2_reckonDeposits_23 ⟨Nat.le_of_ble_eq_true rfl, Nat.le_of_ble_eq_true rfl⟩) ?_
    refine lv_topE (z := bFT b k) (bPd_c (by rw [bD1_o _ (by omega) (by omega) (by omega)]) (by rw [bD1_o _ (by omega) (by omega) (by omega)])) ?_
    refine lv_istore_n (lv' := [(3, .int (bFT b k)), (0, .ref (a 13)), (1, .int (bAvg b)), (2, .int (nI k))]) hx hb dX2_reckonDeposits_26 rfl hl (by decide) rfl (fun ls hl => ?_)
    refine lv_aload_n hx hb dX2_reckonDeposits_27 rfl (lv_at hl 1 rfl) ?_
    refine bkG (b := (bD1 b t k)) (val := .ref (a 7)) hx hb hts hin2 hown hK hP 7 (by decide) (hts (.fieldLink RX2 35 "FundBook" "balances" "[I") (by decide +kernel)) rfl dX2_reckonDeposits_28 ?_
    refine lv_iload_n hx hb dX2_reckonDeposits_31 rfl (lv_at hl 3 rfl) ?_
    refine ldI (f := (bD1 b t k) 7) hx hb hK hP 3 bg_7 k rfl (by omega) (by decide) dX2_reckonDeposits_32 ?_
    refine lv_topE (z := b 7 k) (by rw [bD1_o _ (by omega) (by omega) (by omega)]) ?_
    refine lv_i2l hx hb dX2_reckonDeposits_33 rfl ?_
    refine lv_aload_n hx hb dX2_reckonDeposits_34 rfl (lv_at hl 1 rfl) ?_
    refine bkG (b := (bD1 b t k)) (val := .int ((bD1 b t k) 13 1)) hx hb hts hin2 hown hK hP 1 (by decide) (hts (.fieldLink RX2 13 "FundBook" "depositRate" "I") (by decide +kernel)) rfl dX2_reckonDeposits_35 ?_
    refine lv_topE (z := b 13 1) (by rw [bD1_o _ (by omega) (by omega) (by omega)]) ?_
    refine lv_i2l hx hb dX2_reckonDeposits_38 rfl ?_
    refine lv_lmul hx hb dX2_reckonDeposits_39 ?_
    refine caR (r := .int (bTC b k)) (va_runS (As := [.long ((b 7 k).toInt64 * (b 13 1).toInt64)]) (rest := []) ⟨hx, hb, hml, hown, hts⟩ (c_X2_forOneMonth l _) (va_cwS 1 hts gX2_reckonDeposits_X2_forOneMonth rfl rfl rfl (by decide +kernel) ⟨Nat.le_of_ble_eq_true rfl, Nat.le_of_ble_eq_true rfl⟩) ⟨nP_bl, fun _ _ _ => ⟨rfl, trivial⟩⟩ rfl rfl hl.1 rfl (lv_room (Nat.le_of_ble_eq_true rfl)) dX2_reckonDeposits_40 ⟨Nat.le_of_ble_eq_true rfl, Nat.le_of_ble_eq_true rfl⟩) ?_
    refine lv_istore (lv' := [(4, .int (bTC b k)), (3, .int (bFT b k)), (0, .ref (a 13)), (1, .int (bAvg b)), (2, .int (nI k))]) hx hb dX2_reckonDeposits_43 hl (by decide) rfl (fun ls hl => ?_)
    refine lv_aload_n hx hb dX2_reckonDeposits_45 rfl (lv_at hl 2 rfl) ?_
    refine bkG (b := (bD1 b t k)) (val := .ref (a 9)) hx hb hts hin2 hown hK hP 9 (by decide) (hts (.fieldLink RX2 47 "FundBook" "branchMargins" "[[I") (by decide +kernel)) rfl dX2_reckonDeposits_46 ?_
    refine lv_iload_n hx hb dX2_reckonDeposits_49 rfl (lv_at hl 4 rfl) ?_
    refine ldA (f := fun i => if i < 3 then some (a (16 + i)) else none) hx hb hK hP 7 bg_9 k rfl (by omega) (by decide) dX2_reckonDeposits_50 ?_
    refine lv_optS (x := a (16 + k)) (if_pos (by omega)) ?_
    refine lv_aload_n hx hb dX2_reckonDeposits_51 rfl (lv_at hl 2 rfl) ?_
    refine bkG (b := (bD1 b t k)) (val := .int ((bD1 b t k) 13 4)) hx hb hts hin2 hown hK hP 4 (by decide) (hts (.fieldLink RX2 23 "FundBook" "now" "I") (by decide +kernel)) rfl dX2_reckonDeposits_52 ?_
    refine lv_topE (z := nI t) (by rw [bD1_o _ (by omega) (by omega) (by omega)]; exact ht) ?_
    refine lv_dup2_11 hx hb dX2_reckonDeposits_55 rfl rfl ?_
    refine ldI (f := ((bD1 b t k) (16 + k))) hx hb hK hP (8 + k) (bg_M (by omega)) t rfl (by omega) (by decide) dX2_reckonDeposits_56 ?_
    refine lv_iload_n hx hb dX2_reckonDeposits_57 rfl (lv_at hl 1 rfl) ?_
    refine lv_iload hx hb dX2_reckonDeposits_58 (lv_at hl 0 rfl) ?_
    refine lv_isub hx hb dX2_reckonDeposits_60 ?_
    refine lv_iadd hx hb dX2_reckonDeposits_61 ?_
    refine stI (f := (bD1 b t k) (16 + k)) (ws1 := bkW y a (u2 (bD1 b t k) (16 + k) t (((bD1 b t k) (16 + k)) t + (bFT b k - bTC b k))) n la L) hx hb hK hP hD hS (8 + k) (bg_M (by omega)) t rfl (by omega) (by decide) (bs_M (by omega)) dX2_reckonDeposits_62 (fun H locs hP hD hS => ?_)
    refine lv_aload_n hx hb dX2_reckonDeposits_63 rfl (lv_at hl 2 rfl) ?_
    refine bkG (b := (u2 (bD1 b t k) (16 + k) t (((bD1 b t k) (16 + k)) t + (bFT b k - bTC b k)))) (val := .ref (a 11)) hx hb hts hin2 hown hK hP 11 (by decide) (hts (.fieldLink RX2 53 "FundBook" "treasuryMargins" "[I") (by decide +kernel)) rfl dX2_reckonDeposits_64 ?_
    refine lv_aload_n hx hb dX2_reckonDeposits_67 rfl (lv_at hl 2 rfl) ?_
    refine bkG (b := (u2 (bD1 b t k) (16 + k) t (((bD1 b t k) (16 + k)) t + (bFT b k - bTC b k)))) (val := .int ((u2 (bD1 b t k) (16 + k) t (((bD1 b t k) (16 + k)) t + (bFT b k - bTC b k))) 13 4)) hx hb hts hin2 hown hK hP 4 (by decide) (hts (.fieldLink RX2 23 "FundBook" "now" "I") (by decide +kernel)) rfl dX2_reckonDeposits_68 ?_
    refine lv_topE (z := nI t) (by rw [u2_j (by omega), bD1_o _ (by omega) (by omega) (by omega)]; exact ht) ?_
    refine lv_dup2_11 hx hb dX2_reckonDeposits_71 rfl rfl ?_
    refine ldI (f := ((u2 (bD1 b t k) (16 + k) t (((bD1 b t k) (16 + k)) t + (bFT b k - bTC b k))) 11)) hx hb hK hP 15 bg_11 t rfl (by omega) (by decide) dX2_reckonDeposits_72 ?_
    refine lv_topE (z := (bD1 b t k) 11 t) (by rw [u2_j (by omega)]) ?_
    refine lv_iload_n hx hb dX2_reckonDeposits_73 rfl (lv_at hl 1 rfl) ?_
    refine lv_isub hx hb dX2_reckonDeposits_74 ?_
    refine stI (f := (u2 (bD1 b t k) (16 + k) t (((bD1 b t k) (16 + k)) t + (bFT b k - bTC b k))) 11) (ws1 := bkW y a (u2 (u2 (bD1 b t k) (16 + k) t (((bD1 b t k) (16 + k)) t + (bFT b k - bTC b k))) 11 t ((bD1 b t k) 11 t - bFT b k)) n la L) hx hb hK hP hD hS 15 bg_11 t rfl (by omega) (by decide) bs_11 dX2_reckonDeposits_75 (fun H locs hP hD hS => ?_)
    refine lv_aload_n hx hb dX2_reckonDeposits_76 rfl (lv_at hl 2 rfl) ?_
    refine bkG (b := (u2 (u2 (bD1 b t k) (16 + k) t (((bD1 b t k) (16 + k)) t + (bFT b k - bTC b k))) 11 t ((bD1 b t k) 11 t - bFT b k))) (val := .ref (a 12)) hx hb hts hin2 hown hK hP 12 (by decide) (hts (.fieldLink RX2 56 "FundBook" "bankInterests" "[I") (by decide +kernel)) rfl dX2_reckonDeposits_77 ?_
    refine lv_aload_n hx hb dX2_reckonDeposits_80 rfl (lv_at hl 2 rfl) ?_
    refine bkG (b := (u2 (u2 (bD1 b t k) (16 + k) t (((bD1 b t k) (16 + k)) t + (bFT b k - bTC b k))) 11 t ((bD1 b t k) 11 t - bFT b k))) (val := .int ((u2 (u2 (bD1 b t k) (16 + k) t (((bD1 b t k) (16 + k)) t + (bFT b k - bTC b k))) 11 t ((bD1 b t k) 11 t - bFT b k)) 13 4)) hx hb hts hin2 hown hK hP 4 (by decide) (hts (.fieldLink RX2 23 "FundBook" "now" "I") (by decide +kernel)) rfl dX2_reckonDeposits_81 ?_
    refine lv_topE (z := nI t) (by rw [u2_j (by omega), u2_j (by omega), bD1_o _ (by omega) (by omega) (by omega)]; exact ht) ?_
    refine lv_dup2_11 hx hb dX2_reckonDeposits_84 rfl rfl ?_
    refine ldI (f := ((u2 (u2 (bD1 b t k) (16 + k) t (((bD1 b t k) (16 + k)) t + (bFT b k - bTC b k))) 11 t ((bD1 b t k) 11 t - bFT b k)) 12)) hx hb hK hP 16 bg_12 t rfl (by omega) (by decide) dX2_reckonDeposits_85 ?_
    refine lv_topE (z := (bD1 b t k) 12 t) (by rw [u2_j (by omega), u2_j (by omega)]) ?_
    refine lv_iload hx hb dX2_reckonDeposits_86 (lv_at hl 0 rfl) ?_
    refine lv_isub hx hb dX2_reckonDeposits_88 ?_
    refine stI (f := (u2 (u2 (bD1 b t k) (16 + k) t (((bD1 b t k) (16 + k)) t + (bFT b k - bTC b k))) 11 t ((bD1 b t k) 11 t - bFT b k)) 12) (ws1 := bkW y a (u2 (u2 (u2 (bD1 b t k) (16 + k) t (((bD1 b t k) (16 + k)) t + (bFT b k - bTC b k))) 11 t ((bD1 b t k) 11 t - bFT b k)) 12 t ((bD1 b t k) 12 t - bTC b k)) n la L) hx hb hK hP hD hS 16 bg_12 t rfl (by omega) (by decide) bs_12 dX2_reckonDeposits_89 (fun H locs hP hD hS => ?_)
    refine lv_iinc (v := (nI (k + 1))) (lv' := [(2, .int (nI (k + 1))), (4, .int (bTC b k)), (3, .int (bFT b k)), (0, .ref (a 13)), (1, .int (bAvg b))]) hx hb dX2_reckonDeposits_90 hl (k := 4) rfl iinc1 (by decide) rfl (fun ls hl => ?_)
    refine lv_goto (tgt := 10) hx hb dX2_reckonDeposits_93 (by decide) ?_
    have hP : va_P G vwCl (bkW y a (bD1 b t (k + 1)) n la L) H := by rw [bD1]; exact hP
    have hD : va_D A (bkW y a (bD1 b t (k + 1)) n la L) := by rw [bD1]; exact hD
    exact ih_k _ _ ls hP hD hS (lv_sub hl [3, 4, 0] rfl)
  · have hl : lv_has ls 5 [(0, .ref (a 13)), (1, .int (bAvg b)), (2, .int (nI 3))] := hl
    have hP : va_P G vwCl (bkW y a (bD1 b t 3) n la L) H := hP
    have hD : va_D A (bkW y a (bD1 b t 3) n la L) := hD
    refine lv_iload_n hx hb dX2_reckonDeposits_10 rfl (lv_at hl 2 rfl) ?_
    refine lv_iconst (v := 3) hx hb dX2_reckonDeposits_11 (by decide) ?_
    refine lv_icmp_ge (tgt := 96) hx hb dX2_reckonDeposits_12 (by decide) (fun c_12 => ?_) (fun c_12 => absurd (nI_le (Nat.le_refl 3) (by decide)) c_12)
    exact W.vret hx hb hr (fun t ht hW => ⟨⟨(), rfl, trivial, by rw [ht]; exact hP, by exact hD⟩, hS.F ht⟩) hS.2.2 dX2_reckonDeposits_96
end
section
/-! ===== the book's calls that may throw (printed by a program of mine) ===== -/
set_option maxHeartbeats 4000000 in
set_option maxRecDepth 100000 in
theorem c_X2_setCurve (l : Launch) (hlt : l.stackTraces = false) (G : va_G) (y : Nat → ClassId) (a : Nat → Nat) (b : MS) (n : Nat) (la : Nat → Nat → Nat) (L : LNS) (sz : Nat) (x r : Int32) : vx_Met l yX2_setCurve wsX2_setCurve ({ frames := 6, cells := 1, slots := 6, locals := 82 }) (xP G y [.ref (a 13), .int x, .int r] (bkW y a b n la L) sz) (mQ G (fun _ : Unit => some (.int (b 0 (cn x - 1)))) (fun _ => (xSetCurve x r) = 0) (fun _ => bkW y a (u2 b 0 (cn x - 1) r) n la L) (va_A (bkW y a b n la L) sz)) (xX G (fun E => E = exN ((xSetCurve x r)) ∧ ¬ (xSetCurve x r) = 0) (bkW y a b n la L) (va_A (bkW y a b n la L) sz)) 1 6 (va_A (bkW y a b n la L) sz) := by
  refine vx_ofW (cc := cX2_setCurve) (maxL := 4) (ret := (some .int)) (by decide) rfl ?_
  intro p e s m args below meth c s₁ B hml hout hv
  obtain ⟨rfl, hsz, hP, hK, hD0, hZ⟩ := hv
  have hx := B.exec
  have hb := B.bytes
  have hr := B.returns
  have hts := atoms_spec (ws := wsX2_setCurve) B.pre
  have hown : s.vm.findClass RX2 = some m.cls := findClass_of_methodNamed B.named
  have hlocks := B.notSynchronized
  subst hsz
  have hD := hD0.self (sz := s.heap.size)
  generalize hAe : va_A (bkW y a b n la L) s.heap.size = A at hD hZ ⊢
  have hA : ∀ q : Nat, s.heap.size ≤ q → A q := fun q h => by rw [← hAe]; exact Or.inr h
  have hS : va_S A s.heap s.heap [] := va_S.rf
  have hP : va_P G vwCl (bkW y a b n la L) s.heap := hP
  have hl := lv_entry ([.ref (a 13), .int x, .int r]) (n := 4) (Nat.le_of_ble_eq_true rfl)
  rw [lg_entry_eq]
  generalize (lg_sl ([.ref (a 13), .int x, .int r]) ++ List.replicate (4 - (lg_sl ([.ref (a 13), .int x, .int r])).length) Slot.unset).toArray = ls at hl ⊢
  have hin2 : ∀ w ∈ wsX20, w ∈ wsX2_setCurve := by decide +kernel
  have hl : lv_has ls 4 [(0, .ref (a 13)), (1, .int x), (2, .int r)] := hl
  refine lv_iload_n hx hb dX2_setCurve_0 rfl (lv_at hl 1 rfl) ?_
  refine lv_iconst (v := 1) hx hb dX2_setCurve_1 (by decide) ?_
  refine lv_icmp_lt (tgt := 11) hx hb dX2_setCurve_2 (by decide) (fun c_2 => ?_) (fun c_2 => ?_)
  · have ev : (xSetCurve x r) = 1 := by unfold xSetCurve; exact (if_pos c_2)
    obtain ⟨sa, hsa⟩ := hK.2.2.2.1 (61, "no such term") (by decide +kernel)
    exact vx_throwS (names := ["java/lang/RuntimeException", "java/lang/Exception"]) (cls := "java/lang/IndexOutOfBoundsException") (text := "no such term") hx hb hlt hown (by decide +kernel) (by decide +kernel) (hts (.classLink RX2 59 "java/lang/IndexOutOfBoundsException") (by decide +kernel)) (hts (.initialized "java/lang/IndexOutOfBoundsException") (by decide +kernel)) hsa (vx_hat (B := .castable "java/lang/IndexOutOfBoundsException" "java/lang/IndexOutOfBoundsException" :: twD.map Cond.declares) (fun w hw => hts w (List.mem_cons_of_mem _ (List.mem_append_left _ (List.mem_append_right _ hw)))) (by decide +kernel) (hK.2.thrB (by decide +kernel))) (by decide +kernel) hZ.1 hZ.2 hS (by rw [hml]; exact hl.1) dX2_setCurve_11 dX2_setCurve_14 dX2_setCurve_15 dX2_setCurve_17 dX2_setCurve_20 (fun x hx => (hout x hx).elim) (Nat.le_of_ble_eq_true rfl) (Nat.le_of_ble_eq_true rfl) (Nat.le_of_ble_eq_true rfl) (Nat.le_of_ble_eq_true rfl) hlocks (fun t _ h1 h2 => ⟨(), trivial, ⟨⟨by rw [ev]; rfl, by rw [ev]; decide⟩, hP.kept (fun k q hk => h2 q.1 (hP k q hk).lt), hD⟩, ⟨h1, fun q hq _ => h2 q hq⟩⟩) t_nil (Nat.le_of_ble_eq_true rfl) (Nat.le_of_ble_eq_true rfl)
  · refine lv_iload_n hx hb dX2_setCurve_5 rfl (lv_at hl 1 rfl) ?_
    refine lv_bipush (v := 6) hx hb dX2_setCurve_6 (by decide) ?_
    refine lv_icmp_le (tgt := 21) hx hb dX2_setCurve_8 (by decide) (fun c_8 => ?_) (fun c_8 => ?_)
    · refine lv_iload_n hx hb dX2_setCurve_21 rfl (lv_at hl 2 rfl) ?_
      refine lv_if_lt (tgt := 32) hx hb dX2_setCurve_22 (by decide) (fun c_22 => ?_) (fun c_22 => ?_)
      · have ev : (xSetCurve x r) = 2 := by unfold xSetCurve; exact (if_neg c_2).trans ((if_neg (Int32.not_lt.mpr c_8)).trans ((if_pos c_22)))
        obtain ⟨sa, hsa⟩ := hK.2.2.2.1 (68, "rate out of range") (by decide +kernel)
        exact vx_throwS (names := ["java/lang/RuntimeException", "java/lang/Exception"]) (cls := "java/lang/IllegalArgumentException") (text := "rate out of range") hx hb hlt hown (by decide +kernel) (by decide +kernel) (hts (.classLink RX2 66 "java/lang/IllegalArgumentException") (by decide +kernel)) (hts (.initialized "java/lang/IllegalArgumentException") (by decide +kernel)) hsa (vx_hat (B := .castable "java/lang/IllegalArgumentException" "java/lang/IllegalArgumentException" :: twD.map Cond.declares) (fun w hw => hts w (List.mem_cons_of_mem _ (List.mem_append_right _ hw))) (by decide +kernel) (hK.2.thrB (by decide +kernel))) (by decide +kernel) hZ.1 hZ.2 hS (by rw [hml]; exact hl.1) dX2_setCurve_32 dX2_setCurve_35 dX2_setCurve_36 dX2_setCurve_38 dX2_setCurve_41 (fun x hx => (hout x hx).elim) (Nat.le_of_ble_eq_true rfl) (Nat.le_of_ble_eq_true rfl) (Nat.le_of_ble_eq_true rfl) (Nat.le_of_ble_eq_true rfl) hlocks (fun t _ h1 h2 => ⟨(), trivial, ⟨⟨by rw [ev]; rfl, by rw [ev]; decide⟩, hP.kept (fun k q hk => h2 q.1 (hP k q hk).lt), hD⟩, ⟨h1, fun q hq _ => h2 q hq⟩⟩) t_nil (Nat.le_of_ble_eq_true rfl) (Nat.le_of_ble_eq_true rfl)
      · refine lv_iload_n hx hb dX2_setCurve_25 rfl (lv_at hl 2 rfl) ?_
        refine lv_sipush (v := 5000) hx hb dX2_setCurve_26 (by decide) ?_
        refine lv_icmp_le (tgt := 42) hx hb dX2_setCurve_29 (by decide) (fun c_29 => ?_) (fun c_29 => ?_)
        · have ev : xSetCurve x r = 0 := by unfold xSetCurve; exact (if_neg c_2).trans ((if_neg (Int32.not_lt.mpr c_8)).trans ((if_neg c_22).trans ((if_neg (Int32.not_lt.mpr c_29)))))
          obtain ⟨i, hi, rfl⟩ := inS c_2 (Int32.not_lt.mpr c_8)
          have e1 : cn (nI (i + 1)) - 1 = i := by rw [cnI (by omega)]; rfl
          refine lv_aload_n hx hb dX2_setCurve_42 rfl (lv_at hl 0 rfl) ?_
          refine bkG (b := b) (val := .ref (a 0)) hx hb hts hin2 hown hK hP 0 (by decide) (hts (.fieldLink RX2 9 "FundBook" "curve" "[I") (by decide +kernel)) rfl dX2_setCurve_43 ?_
          refine lv_iload_n hx hb dX2_setCurve_46 rfl (lv_at hl 1 rfl) ?_
          refine lv_iconst (v := 1) hx hb dX2_setCurve_47 (by decide) ?_
          refine lv_isub hx hb dX2_setCurve_48 ?_
          refine lv_topE (z := nI i) (nI_pred i) ?_
          refine ldI (f := b 0) hx hb hK hP 1 bg_0 i rfl (by omega) (by decide) dX2_setCurve_49 ?_
          refine lv_istore_n (lv' := [(3, .int (b 0 i)), (0, .ref (a 13)), (1, .int (nI (i + 1))), (2, .int r)]) hx hb dX2_setCurve_50 rfl hl (by decide) rfl (fun ls hl => ?_)
          refine lv_aload_n hx hb dX2_setCurve_51 rfl (lv_at hl 1 rfl) ?_
          refine bkG (b := b) (val := .ref (a 0)) hx hb hts hin2 hown hK hP 0 (by decide) (hts (.fieldLink RX2 9 "FundBook" "curve" "[I") (by decide +kernel)) rfl dX2_setCurve_52 ?_
          refine lv_iload_n hx hb dX2_setCurve_55 rfl (lv_at hl 2 rfl) ?_
          refine lv_iconst (v := 1) hx hb dX2_setCurve_56 (by decide) ?_
          refine lv_isub hx hb dX2_setCurve_57 ?_
          refine lv_topE (z := nI i) (nI_pred i) ?_
          refine lv_iload_n hx hb dX2_setCurve_58 rfl (lv_at hl 3 rfl) ?_
          refine stI (f := b 0) (ws1 := bkW y a (u2 b 0 i r) n la L) hx hb hK hP hD hS 1 bg_0 i rfl (by omega) (by decide) bs_0 dX2_setCurve_59 (fun H locs hP hD hS => ?_)
          refine lv_iload_n hx hb dX2_setCurve_60 rfl (lv_at hl 0 rfl) ?_
          refine vx_ret ?_
          refine W.widen (k := 1) (n := 6) (Nat.le_of_ble_eq_true rfl) (Nat.le_of_ble_eq_true rfl) ?_
          exact W.iret (v := b 0 i) hx hb hr (fun t ht hW => ⟨⟨(), congrArg (fun z => Outcome.returned (some (.int z))) (by rw [e1]), ev, by rw [ht]; rw [e1]; exact hP, by rw [e1]; exact hD⟩, hS.F ht⟩) hS.2.2 dX2_setCurve_61
        · have ev : (xSetCurve x r) = 2 := by unfold xSetCurve; exact (if_neg c_2).trans ((if_neg (Int32.not_lt.mpr c_8)).trans ((if_neg c_22).trans ((if_pos (Int32.not_le.mp c_29)))))
          obtain ⟨sa, hsa⟩ := hK.2.2.2.1 (68, "rate out of range") (by decide +kernel)
          exact vx_throwS (names := ["java/lang/RuntimeException", "java/lang/Exception"]) (cls := "java/lang/IllegalArgumentException") (text := "rate out of range") hx hb hlt hown (by decide +kernel) (by decide +kernel) (hts (.classLink RX2 66 "java/lang/IllegalArgumentException") (by decide +kernel)) (hts (.initialized "java/lang/IllegalArgumentException") (by decide +kernel)) hsa (vx_hat (B := .castable "java/lang/IllegalArgumentException" "java/lang/IllegalArgumentException" :: twD.map Cond.declares) (fun w hw => hts w (List.mem_cons_of_mem _ (List.mem_append_right _ hw))) (by decide +kernel) (hK.2.thrB (by decide +kernel))) (by decide +kernel) hZ.1 hZ.2 hS (by rw [hml]; exact hl.1) dX2_setCurve_32 dX2_setCurve_35 dX2_setCurve_36 dX2_setCurve_38 dX2_setCurve_41 (fun x hx => (hout x hx).elim) (Nat.le_of_ble_eq_true rfl) (Nat.le_of_ble_eq_true rfl) (Nat.le_of_ble_eq_true rfl) (Nat.le_of_ble_eq_true rfl) hlocks (fun t _ h1 h2 => ⟨(), trivial, ⟨⟨by rw [ev]; rfl, by rw [ev]; decide⟩, hP.kept (fun k q hk => h2 q.1 (hP k q hk).lt), hD⟩, ⟨h1, fun q hq _ => h2 q hq⟩⟩) t_nil (Nat.le_of_ble_eq_true rfl) (Nat.le_of_ble_eq_true rfl)
    · have ev : (xSetCurve x r) = 1 := by unfold xSetCurve; exact (if_neg c_2).trans ((if_pos (Int32.not_le.mp c_8)))
      obtain ⟨sa, hsa⟩ := hK.2.2.2.1 (61, "no such term") (by decide +kernel)
      exact vx_throwS (names := ["java/lang/RuntimeException", "java/lang/Exception"]) (cls := "java/lang/IndexOutOfBoundsException") (text := "no such term") hx hb hlt hown (by decide +kernel) (by decide +kernel) (hts (.classLink RX2 59 "java/lang/IndexOutOfBoundsException") (by decide +kernel)) (hts (.initialized "java/lang/IndexOutOfBoundsException") (by decide +kernel)) hsa (vx_hat (B := .castable "java/lang/IndexOutOfBoundsException" "java/lang/IndexOutOfBoundsException" :: twD.map Cond.declares) (fun w hw => hts w (List.mem_cons_of_mem _ (List.mem_append_left _ (List.mem_append_right _ hw)))) (by decide +kernel) (hK.2.thrB (by decide +kernel))) (by decide +kernel) hZ.1 hZ.2 hS (by rw [hml]; exact hl.1) dX2_setCurve_11 dX2_setCurve_14 dX2_setCurve_15 dX2_setCurve_17 dX2_setCurve_20 (fun x hx => (hout x hx).elim) (Nat.le_of_ble_eq_true rfl) (Nat.le_of_ble_eq_true rfl) (Nat.le_of_ble_eq_true rfl) (Nat.le_of_ble_eq_true rfl) hlocks (fun t _ h1 h2 => ⟨(), trivial, ⟨⟨by rw [ev]; rfl, by rw [ev]; decide⟩, hP.kept (fun k q hk => h2 q.1 (hP k q hk).lt), hD⟩, ⟨h1, fun q hq _ => h2 q hq⟩⟩) t_nil (Nat.le_of_ble_eq_true rfl) (Nat.le_of_ble_eq_true rfl)
set_option maxHeartbeats 4000000 in
set_option maxRecDepth 100000 in
theorem c_X2_setRates (l : Launch) (hlt : l.stackTraces = false) (G : va_G) (y : Nat → ClassId) (a : Nat → Nat) (b : MS) (n : Nat) (la : Nat → Nat → Nat) (L : LNS) (sz : Nat) (d o c0 : Int32) : vx_Met l yX2_setRates wsX2_setRates ({ frames := 6, cells := 1, slots := 6, locals := 82 }) (xP G y [.ref (a 13), .int d, .int o, .int c0] (bkW y a b n la L) sz) (mQ G (fun _ : Unit => none) (fun _ => (xSetRates d o c0) = 0) (fun _ => bkW y a (bSetRates b d o c0) n la L) (va_A (bkW y a b n la L) sz)) (xX G (fun E => E = exN ((xSetRates d o c0)) ∧ ¬ (xSetRates d o c0) = 0) (bkW y a b n la L) (va_A (bkW y a b n la L) sz)) 1 6 (va_A (bkW y a b n la L) sz) := by
  refine vx_ofW (cc := cX2_setRates) (maxL := 4) (ret := none) (by decide) rfl ?_
  intro p e s m args below meth c s₁ B hml hout hv
  obtain ⟨rfl, hsz, hP, hK, hD0, hZ⟩ := hv
  have hx := B.exec
  have hb := B.bytes
  have hr := B.returns
  have hts := atoms_spec (ws := wsX2_setRates) B.pre
  have hown : s.vm.findClass RX2 = some m.cls := findClass_of_methodNamed B.named
  have hlocks := B.notSynchronized
  subst hsz
  have hD := hD0.self (sz := s.heap.size)
  generalize hAe : va_A (bkW y a b n la L) s.heap.size = A at hD hZ ⊢
  have hA : ∀ q : Nat, s.heap.size ≤ q → A q := fun q h => by rw [← hAe]; exact Or.inr h
  have hS : va_S A s.heap s.heap [] := va_S.rf
  have hP : va_P G vwCl (bkW y a b n la L) s.heap := hP
  have hl := lv_entry ([.ref (a 13), .int d, .int o, .int c0]) (n := 4) (Nat.le_of_ble_eq_true rfl)
  rw [lg_entry_eq]
  generalize (lg_sl ([.ref (a 13), .int d, .int o, .int c0]) ++ List.replicate (4 - (lg_sl ([.ref (a 13), .int d, .int o, .int c0])).length) Slot.unset).toArray = ls at hl ⊢
  have hin2 : ∀ w ∈ wsX20, w ∈ wsX2_setRates := by decide +kernel
  have hl : lv_has ls 4 [(0, .ref (a 13)), (1, .int d), (2, .int o), (3, .int c0)] := hl
  refine lv_iload_n hx hb dX2_setRates_0 rfl (lv_at hl 1 rfl) ?_
  refine lv_if_lt (tgt := 11) hx hb dX2_setRates_1 (by decide) (fun c_1 => ?_) (fun c_1 => ?_)
  · have ev : (xSetRates d o c0) = 2 := by unfold xSetRates; exact (if_pos c_1)
    obtain ⟨sa, hsa⟩ := hK.2.2.2.1 (71, "deposit rate out of range") (by decide +kernel)
    exact vx_throwS (names := ["java/lang/RuntimeException", "java/lang/Exception"]) (cls := "java/lang/IllegalArgumentException") (text := "deposit rate out of range") hx hb hlt hown (by decide +kernel) (by decide +kernel) (hts (.classLink RX2 66 "java/lang/IllegalArgumentException") (by decide +kernel)) (hts (.initialized "java/lang/IllegalArgumentException") (by decide +kernel)) hsa (vx_hat (B := .castable "java/lang/IllegalArgumentException" "java/lang/IllegalArgumentException" :: twD.map Cond.declares) (fun w hw => hts w (List.mem_cons_of_mem _ (List.mem_append_right _ hw))) (by decide +kernel) (hK.2.thrB (by decide +kernel))) (by decide +kernel) hZ.1 hZ.2 hS (by rw [hml]; exact hl.1) dX2_setRates_11 dX2_setRates_14 dX2_setRates_15 dX2_setRates_17 dX2_setRates_20 (fun x hx => (hout x hx).elim) (Nat.le_of_ble_eq_true rfl) (Nat.le_of_ble_eq_true rfl) (Nat.le_of_ble_eq_true rfl) (Nat.le_of_ble_eq_true rfl) hlocks (fun t _ h1 h2 => ⟨(), trivial, ⟨⟨by rw [ev]; rfl, by rw [ev]; decide⟩, hP.kept (fun k q hk => h2 q.1 (hP k q hk).lt), hD⟩, ⟨h1, fun q hq _ => h2 q hq⟩⟩) t_nil (Nat.le_of_ble_eq_true rfl) (Nat.le_of_ble_eq_true rfl)
  · refine lv_iload_n hx hb dX2_setRates_4 rfl (lv_at hl 1 rfl) ?_
    refine lv_sipush (v := 5000) hx hb dX2_setRates_5 (by decide) ?_
    refine lv_icmp_le (tgt := 21) hx hb dX2_setRates_8 (by decide) (fun c_8 => ?_) (fun c_8 => ?_)
    · refine lv_iload_n hx hb dX2_setRates_21 rfl (lv_at hl 2 rfl) ?_
      refine lv_if_lt (tgt := 32) hx hb dX2_setRates_22 (by decide) (fun c_22 => ?_) (fun c_22 => ?_)
      · have ev : (xSetRates d o c0) = 2 := by unfold xSetRates; exact (if_neg c_1).trans ((if_neg (Int32.not_lt.mpr c_8)).trans ((if_pos c_22)))
        obtain ⟨sa, hsa⟩ := hK.2.2.2.1 (73, "option rate out of range") (by decide +kernel)
        exact vx_throwS (names := ["java/lang/RuntimeException", "java/lang/Exception"]) (cls := "java/lang/IllegalArgumentException") (text := "option rate out of range") hx hb hlt hown (by decide +kernel) (by decide +kernel) (hts (.classLink RX2 66 "java/lang/IllegalArgumentException") (by decide +kernel)) (hts (.initialized "java/lang/IllegalArgumentException") (by decide +kernel)) hsa (vx_hat (B := .castable "java/lang/IllegalArgumentException" "java/lang/IllegalArgumentException" :: twD.map Cond.declares) (fun w hw => hts w (List.mem_cons_of_mem _ (List.mem_append_right _ hw))) (by decide +kernel) (hK.2.thrB (by decide +kernel))) (by decide +kernel) hZ.1 hZ.2 hS (by rw [hml]; exact hl.1) dX2_setRates_32 dX2_setRates_35 dX2_setRates_36 dX2_setRates_38 dX2_setRates_41 (fun x hx => (hout x hx).elim) (Nat.le_of_ble_eq_true rfl) (Nat.le_of_ble_eq_true rfl) (Nat.le_of_ble_eq_true rfl) (Nat.le_of_ble_eq_true rfl) hlocks (fun t _ h1 h2 => ⟨(), trivial, ⟨⟨by rw [ev]; rfl, by rw [ev]; decide⟩, hP.kept (fun k q hk => h2 q.1 (hP k q hk).lt), hD⟩, ⟨h1, fun q hq _ => h2 q hq⟩⟩) t_nil (Nat.le_of_ble_eq_true rfl) (Nat.le_of_ble_eq_true rfl)
      · refine lv_iload_n hx hb dX2_setRates_25 rfl (lv_at hl 2 rfl) ?_
        refine lv_sipush (v := 5000) hx hb dX2_setRates_26 (by decide) ?_
        refine lv_icmp_le (tgt := 42) hx hb dX2_setRates_29 (by decide) (fun c_29 => ?_) (fun c_29 => ?_)
        · refine lv_iload_n hx hb dX2_setRates_42 rfl (lv_at hl 3 rfl) ?_
          refine lv_if_lt (tgt := 52) hx hb dX2_setRates_43 (by decide) (fun c_43 => ?_) (fun c_43 => ?_)
          · have ev : (xSetRates d o c0) = 2 := by unfold xSetRates; exact (if_neg c_1).trans ((if_neg (Int32.not_lt.mpr c_8)).trans ((if_neg c_22).trans ((if_neg (Int32.not_lt.mpr c_29)).trans ((if_pos c_43)))))
            obtain ⟨sa, hsa⟩ := hK.2.2.2.1 (75, "core share out of range") (by decide +kernel)
            exact vx_throwS (names := ["java/lang/RuntimeException", "java/lang/Exception"]) (cls := "java/lang/IllegalArgumentException") (text := "core share out of range") hx hb hlt hown (by decide +kernel) (by decide +kernel) (hts (.classLink RX2 66 "java/lang/IllegalArgumentException") (by decide +kernel)) (hts (.initialized "java/lang/IllegalArgumentException") (by decide +kernel)) hsa (vx_hat (B := .castable "java/lang/IllegalArgumentException" "java/lang/IllegalArgumentException" :: twD.map Cond.declares) (fun w hw => hts w (List.mem_cons_of_mem _ (List.mem_append_right _ hw))) (by decide +kernel) (hK.2.thrB (by decide +kernel))) (by decide +kernel) hZ.1 hZ.2 hS (by rw [hml]; exact hl.1) dX2_setRates_52 dX2_setRates_55 dX2_setRates_56 dX2_setRates_58 dX2_setRates_61 (fun x hx => (hout x hx).elim) (Nat.le_of_ble_eq_true rfl) (Nat.le_of_ble_eq_true rfl) (Nat.le_of_ble_eq_true rfl) (Nat.le_of_ble_eq_true rfl) hlocks (fun t _ h1 h2 => ⟨(), trivial, ⟨⟨by rw [ev]; rfl, by rw [ev]; decide⟩, hP.kept (fun k q hk => h2 q.1 (hP k q hk).lt), hD⟩, ⟨h1, fun q hq _ => h2 q hq⟩⟩) t_nil (Nat.le_of_ble_eq_true rfl) (Nat.le_of_ble_eq_true rfl)
          · refine lv_iload_n hx hb dX2_setRates_46 rfl (lv_at hl 3 rfl) ?_
            refine lv_bipush (v := 100) hx hb dX2_setRates_47 (by decide) ?_
            refine lv_icmp_le (tgt := 62) hx hb dX2_setRates_49 (by decide) (fun c_49 => ?_) (fun c_49 => ?_)
            · have ev : xSetRates d o c0 = 0 := by unfold xSetRates; exact (if_neg c_1).trans ((if_neg (Int32.not_lt.mpr c_8)).trans ((if_neg c_22).trans ((if_neg (Int32.not_lt.mpr c_29)).trans ((if_neg c_43).trans ((if_neg (Int32.not_lt.mpr c_49)))))))
              refine lv_aload_n hx hb dX2_setRates_62 rfl (lv_at hl 0 rfl) ?_
              refine lv_iload_n hx hb dX2_setRates_63 rfl (lv_at hl 1 rfl) ?_
              refine bkS (b := b) (x := d) hx hb hts hin2 hown hK hP hD hS 1 (by decide) (hts (.fieldLink RX2 13 "FundBook" "depositRate" "I") (by decide +kernel)) dX2_setRates_64 (fun H locs hP hD hS => ?_)
              refine lv_aload_n hx hb dX2_setRates_67 rfl (lv_at hl 0 rfl) ?_
              refine lv_iload_n hx hb dX2_setRates_68 rfl (lv_at hl 2 rfl) ?_
              refine bkS (b := (u2 b 13 1 d)) (x := o) hx hb hts hin2 hown hK hP hD hS 2 (by decide) (hts (.fieldLink RX2 17 "FundBook" "optionRate" "I") (by decide +kernel)) dX2_setRates_69 (fun H locs hP hD hS => ?_)
              refine lv_aload_n hx hb dX2_setRates_72 rfl (lv_at hl 0 rfl) ?_
              refine lv_iload_n hx hb dX2_setRates_73 rfl (lv_at hl 3 rfl) ?_
              refine bkS (b := (u2 (u2 b 13 1 d) 13 2 o)) (x := c0) hx hb hts hin2 hown hK hP hD hS 3 (by decide) (hts (.fieldLink RX2 20 "FundBook" "coreShare" "I") (by decide +kernel)) dX2_setRates_74 (fun H locs hP hD hS => ?_)
              refine vx_ret ?_
              refine W.widen (k := 1) (n := 6) (Nat.le_of_ble_eq_true rfl) (Nat.le_of_ble_eq_true rfl) ?_
              exact W.vret hx hb hr (fun t ht hW => ⟨⟨(), rfl, ev, by rw [ht]; exact hP, by exact hD⟩, hS.F ht⟩) hS.2.2 dX2_setRates_77
            · have ev : (xSetRates d o c0) = 2 := by unfold xSetRates; exact (if_neg c_1).trans ((if_neg (Int32.not_lt.mpr c_8)).trans ((if_neg c_22).trans ((if_neg (Int32.not_lt.mpr c_29)).trans ((if_neg c_43).trans ((if_pos (Int32.not_le.mp c_49)))))))
              obtain ⟨sa, hsa⟩ := hK.2.2.2.1 (75, "core share out of range") (by decide +kernel)
              exact vx_throwS (names := ["java/lang/RuntimeException", "java/lang/Exception"]) (cls := "java/lang/IllegalArgumentException") (text := "core share out of range") hx hb hlt hown (by decide +kernel) (by decide +kernel) (hts (.classLink RX2 66 "java/lang/IllegalArgumentException") (by decide +kernel)) (hts (.initialized "java/lang/IllegalArgumentException") (by decide +kernel)) hsa (vx_hat (B := .castable "java/lang/IllegalArgumentException" "java/lang/IllegalArgumentException" :: twD.map Cond.declares) (fun w hw => hts w (List.mem_cons_of_mem _ (List.mem_append_right _ hw))) (by decide +kernel) (hK.2.thrB (by decide +kernel))) (by decide +kernel) hZ.1 hZ.2 hS (by rw [hml]; exact hl.1) dX2_setRates_52 dX2_setRates_55 dX2_setRates_56 dX2_setRates_58 dX2_setRates_61 (fun x hx => (hout x hx).elim) (Nat.le_of_ble_eq_true rfl) (Nat.le_of_ble_eq_true rfl) (Nat.le_of_ble_eq_true rfl) (Nat.le_of_ble_eq_true rfl) hlocks (fun t _ h1 h2 => ⟨(), trivial, ⟨⟨by rw [ev]; rfl, by rw [ev]; decide⟩, hP.kept (fun k q hk => h2 q.1 (hP k q hk).lt), hD⟩, ⟨h1, fun q hq _ => h2 q hq⟩⟩) t_nil (Nat.le_of_ble_eq_true rfl) (Nat.le_of_ble_eq_true rfl)
        · have ev : (xSetRates d o c0) = 2 := by unfold xSetRates; exact (if_neg c_1).trans ((if_neg (Int32.not_lt.mpr c_8)).trans ((if_neg c_22).trans ((if_pos (Int32.not_le.mp c_29)))))
          obtain ⟨sa, hsa⟩ := hK.2.2.2.1 (73, "option rate out of range") (by decide +kernel)
          exact vx_throwS (names := ["java/lang/RuntimeException", "java/lang/Exception"]) (cls := "java/lang/IllegalArgumentException") (text := "option rate out of range") hx hb hlt hown (by decide +kernel) (by decide +kernel) (hts (.classLink RX2 66 "java/lang/IllegalArgumentException") (by decide +kernel)) (hts (.initialized "java/lang/IllegalArgumentException") (by decide +kernel)) hsa (vx_hat (B := .castable "java/lang/IllegalArgumentException" "java/lang/IllegalArgumentException" :: twD.map Cond.declares) (fun w hw => hts w (List.mem_cons_of_mem _ (List.mem_append_right _ hw))) (by decide +kernel) (hK.2.thrB (by decide +kernel))) (by decide +kernel) hZ.1 hZ.2 hS (by rw [hml]; exact hl.1) dX2_setRates_32 dX2_setRates_35 dX2_setRates_36 dX2_setRates_38 dX2_setRates_41 (fun x hx => (hout x hx).elim) (Nat.le_of_ble_eq_true rfl) (Nat.le_of_ble_eq_true rfl) (Nat.le_of_ble_eq_true rfl) (Nat.le_of_ble_eq_true rfl) hlocks (fun t _ h1 h2 => ⟨(), trivial, ⟨⟨by rw [ev]; rfl, by rw [ev]; decide⟩, hP.kept (fun k q hk => h2 q.1 (hP k q hk).lt), hD⟩, ⟨h1, fun q hq _ => h2 q hq⟩⟩) t_nil (Nat.le_of_ble_eq_true rfl) (Nat.le_of_ble_eq_true rfl)
    · have ev : (xSetRates d o c0) = 2 := by unfold xSetRates; exact (if_neg c_1).trans ((if_pos (Int32.not_le.mp c_8)))
      obtain ⟨sa, hsa⟩ := hK.2.2.2.1 (71, "deposit rate out of range") (by decide +kernel)
      exact vx_throwS (names := ["java/lang/RuntimeException", "java/lang/Exception"]) (cls := "java/lang/IllegalArgumentException") (text := "deposit rate out of range") hx hb hlt hown (by decide +kernel) (by decide +kernel) (hts (.classLink RX2 66 "java/lang/IllegalArgumentException") (by decide +kernel)) (hts (.initialized "java/lang/IllegalArgumentException") (by decide +kernel)) hsa (vx_hat (B := .castable "java/lang/IllegalArgumentException" "java/lang/IllegalArgumentException" :: twD.map Cond.declares) (fun w hw => hts w (List.mem_cons_of_mem _ (List.mem_append_right _ hw))) (by decide +kernel) (hK.2.thrB (by decide +kernel))) (by decide +kernel) hZ.1 hZ.2 hS (by rw [hml]; exact hl.1) dX2_setRates_11 dX2_setRates_14 dX2_setRates_15 dX2_setRates_17 dX2_setRates_20 (fun x hx => (hout x hx).elim) (Nat.le_of_ble_eq_true rfl) (Nat.le_of_ble_eq_true rfl) (Nat.le_of_ble_eq_true rfl) (Nat.le_of_ble_eq_true rfl) hlocks (fun t _ h1 h2 => ⟨(), trivial, ⟨⟨by rw [ev]; rfl, by rw [ev]; decide⟩, hP.kept (fun k q hk => h2 q.1 (hP k q hk).lt), hD⟩, ⟨h1, fun q hq _ => h2 q hq⟩⟩) t_nil (Nat.le_of_ble_eq_true rfl) (Nat.le_of_ble_eq_true rfl)
set_option maxHeartbeats 4000000 in
set_option maxRecDepth 100000 in
theorem c_X2_repay (l : Launch) (hlt : l.stackTraces = false) (G : va_G) (y : Nat → ClassId) (a : Nat → Nat) (b : MS) (n : Nat) (la : Nat → Nat → Nat) (L : LNS) (sz : Nat) (hn24 : n ≤ 24) (pd : Nat → Nat) (hpd : ∀ k, k < n → L k 0 7 = nI (pd k) ∧ pd k ≤ 6) (x : Int32) : vx_Met l yX2_repay wsX2_repay ({ frames := 6, cells := 1, slots := 6, locals := 82 }) (xP G y [.ref (a 13), .int x] (bkW y a b n la L) sz) (mQ G (fun _ : Unit => some (.int (lUnp (L (cn x)) (pd (cn x))))) (fun _ => (xRepay n L pd x) = 0) (fun _ => bkW y a b n la (u3 L (cn x) (nI 6))) (va_A (bkW y a b n la L) sz)) (xX G (fun E => E = exN ((xRepay n L pd x)) ∧ ¬ (xRepay n L pd x) = 0) (bkW y a b n la L) (va_A (bkW y a b n la L) sz)) 1 6 (va_A (bkW y a b n la L) sz) := by
  refine vx_ofW (cc := cX2_repay) (maxL := 4) (ret := (some .int)) (by decide) rfl ?_
  intro p e s m args below meth c s₁ B hml hout hv
  obtain ⟨rfl, hsz, hP, hK, hD0, hZ⟩ := hv
  have hx := B.exec
  have hb := B.bytes
  have hr := B.returns
  have hts := atoms_spec (ws := wsX2_repay) B.pre
  have hown : s.vm.findClass RX2 = some m.cls := findClass_of_methodNamed B.named
  have hlocks := B.notSynchronized
  subst hsz
  have hD := hD0.self (sz := s.heap.size)
  generalize hAe : va_A (bkW y a b n la L) s.heap.size = A at hD hZ ⊢
  have hA : ∀ q : Nat, s.heap.size ≤ q → A q := fun q h => by rw [← hAe]; exact Or.inr h
  have hS : va_S A s.heap s.heap [] := va_S.rf
  have hP : va_P G vwCl (bkW y a b n la L) s.heap := hP
  have hl := lv_entry ([.ref (a 13), .int x]) (n := 4) (Nat.le_of_ble_eq_true rfl)
  rw [lg_entry_eq]
  generalize (lg_sl ([.ref (a 13), .int x]) ++ List.replicate (4 - (lg_sl ([.ref (a 13), .int x])).length) Slot.unset).toArray = ls at hl ⊢
  have hin0 : ∀ w ∈ wsX00, w ∈ wsX2_repay := by decide +kernel
  have hl : lv_has ls 4 [(0, .ref (a 13)), (1, .int x)] := hl
  refine lv_aload_n hx hb dX2_repay_0 rfl (lv_at hl 0 rfl) ?_
  refine lv_iload_n hx hb dX2_repay_1 rfl (lv_at hl 1 rfl) ?_
  refine caR (r := va_rf (bFind n la x)) (va_runV (As := [.int x]) (rest := []) ⟨hx, hb, hml, hown, hts⟩ (c_X2_findLoan l G y a b n la L x) (cwV 1 hts gX2_repay_X2_findLoan rfl rfl rfl (by decide +kernel) ⟨Nat.le_of_ble_eq_true rfl, Nat.le_of_ble_eq_true rfl⟩) ⟨rP_bl, va_recv hK.1 hP (ci := 2) (q0 := 0) rfl rfl, fun U hU hW => ⟨rfl, by rw [hU]; exact hP, Kb.moved hW hK⟩⟩ rfl rfl hl.1 rfl (lv_room (Nat.le_of_ble_eq_true rfl)) dX2_repay_2 ⟨Nat.le_of_ble_eq_true rfl, Nat.le_of_ble_eq_true rfl⟩) ?_
  by_cases hxx : mIn x 0 (nI n - 1) = 0
  · refine lv_optN (bFind_N hxx hn24) ?_
    refine lv_astore_nN (lv' := [(2, .null), (0, .ref (a 13)), (1, .int x)]) hx hb dX2_repay_5 rfl hl (by decide) rfl (fun ls hl => ?_)
    refine lv_aload_nN hx hb dX2_repay_6 rfl (lv_at hl 0 rfl) ?_
    refine lv_ifnonnullN hx hb dX2_repay_7 ?_
    have ev : (xRepay n L pd x) = 1 := by unfold xRepay; exact if_pos hxx
    obtain ⟨sa, hsa⟩ := hK.2.2.2.1 (105, "no such loan") (by decide +kernel)
    exact vx_throwS (names := ["java/lang/RuntimeException", "java/lang/Exception"]) (cls := "java/lang/IndexOutOfBoundsException") (text := "no such loan") hx hb hlt hown (by decide +kernel) (by decide +kernel) (hts (.classLink RX2 59 "java/lang/IndexOutOfBoundsException") (by decide +kernel)) (hts (.initialized "java/lang/IndexOutOfBoundsException") (by decide +kernel)) hsa (vx_hat (B := .castable "java/lang/IndexOutOfBoundsException" "java/lang/IndexOutOfBoundsException" :: twD.map Cond.declares) (fun w hw => hts w (List.mem_cons_of_mem _ (List.mem_append_left _ (List.mem_append_right _ hw)))) (by decide +kernel) (hK.2.thrB (by decide +kernel))) (by decide +kernel) hZ.1 hZ.2 hS (by rw [hml]; exact hl.1) dX2_repay_10 dX2_repay_13 dX2_repay_14 dX2_repay_16 dX2_repay_19 (fun x hx => (hout x hx).elim) (Nat.le_of_ble_eq_true rfl) (Nat.le_of_ble_eq_true rfl) (Nat.le_of_ble_eq_true rfl) (Nat.le_of_ble_eq_true rfl) hlocks (fun t _ h1 h2 => ⟨(), trivial, ⟨⟨by rw [ev]; rfl, by rw [ev]; decide⟩, hP.kept (fun k q hk => h2 q.1 (hP k q hk).lt), hD⟩, ⟨h1, fun q hq _ => h2 q hq⟩⟩) t_nil (Nat.le_of_ble_eq_true rfl) (Nat.le_of_ble_eq_true rfl)
  · obtain ⟨i, hi, rfl⟩ := inL hxx (by omega)
    refine lv_optS (bFind_S hi hn24) ?_
    refine lv_astore_n (lv' := [(2, .ref (la i 0)), (0, .ref (a 13)), (1, .int (nI i))]) hx hb dX2_repay_5 rfl hl (by decide) rfl (fun ls hl => ?_)
    refine lv_aload_n hx hb dX2_repay_6 rfl (lv_at hl 0 rfl) ?_
    refine lv_ifnonnull (tgt := 20) hx hb dX2_repay_7 (by decide) ?_
    refine lv_aload_n hx hb dX2_repay_20 rfl (lv_at hl 0 rfl) ?_
    refine caR (r := .int (lUnp (L i) (pd i))) (va_runVN (As := []) (rest := []) ⟨hx, hb, hml, hown, hts⟩ (c_X0_unpaid l G y la L i (pd i) (hpd i hi).1 (hpd i hi).2) ⟨va_cnB (host := "FundBook") 0 hts gX2_repay_X0_unpaid_n107 rfl rfl rfl (hK.nw (by decide +kernel)) (hts (.initialized RX0) (by decide +kernel)) (by decide +kernel) ⟨Nat.le_of_ble_eq_true rfl, Nat.le_of_ble_eq_true rfl⟩, hts (.instanceMethod yX0_unpaid) (by decide +kernel), hts (.selects RX0 yX0_unpaid yX0_unpaid) (by decide +kernel)⟩ ⟨rP_bl, va_recv hK.1 (bk_ln hP hi) (ci := 0) (q0 := 0) rfl rfl, fun U hU hW => ⟨rfl, by rw [hU]; exact (bk_ln hP hi), Kb.moved hW hK⟩⟩ rfl rfl hl.1 rfl (lv_room (Nat.le_of_ble_eq_true rfl)) dX2_repay_21 ⟨Nat.le_of_ble_eq_true rfl, Nat.le_of_ble_eq_true rfl⟩) ?_
    refine lv_istore_n (lv' := [(3, .int (lUnp (L i) (pd i))), (2, .ref (la i 0)), (0, .ref (a 13)), (1, .int (nI i))]) hx hb dX2_repay_24 rfl hl (by decide) rfl (fun ls hl => ?_)
    refine lv_aload_n hx hb dX2_repay_25 rfl (lv_at hl 1 rfl) ?_
    refine lnGN (i := i) (val := .int (L i 0 3)) hx hb hts hin0 hown hK (bk_ln hP hi) 3 (by decide) (by decide +kernel) rfl dX2_repay_26 ?_
    refine lv_if_eq (tgt := 36) hx hb dX2_repay_29 (by decide) (fun c_29 => ?_) (fun c_29 => ?_)
    · have ev : (xRepay n L pd (nI i)) = 3 := by unfold xRepay; rw [cnI (by omega)]; exact (if_neg hxx).trans ((if_pos c_29))
      obtain ⟨sa, hsa⟩ := hK.2.2.2.1 (115, "it has no option, or is paid back") (by decide +kernel)
      exact vx_throwS (names := ["java/lang/RuntimeException", "java/lang/Exception"]) (cls := "java/lang/IllegalStateException") (text := "it has no option, or is paid back") hx hb hlt hown (by decide +kernel) (by decide +kernel) (hts (.classLink RX2 84 "java/lang/IllegalStateException") (by decide +kernel)) (hts (.initialized "java/lang/IllegalStateException") (by decide +kernel)) hsa (vx_hat (B := .castable "java/lang/IllegalStateException" "java/lang/IllegalStateException" :: twD.map Cond.declares) (fun w hw => hts w (List.mem_cons_of_mem _ (List.mem_append_right _ hw))) (by decide +kernel) (hK.2.thrB (by decide +kernel))) (by decide +kernel) hZ.1 hZ.2 hS (by rw [hml]; exact hl.1) dX2_repay_36 dX2_repay_39 dX2_repay_40 dX2_repay_42 dX2_repay_45 (fun x hx => (hout x hx).elim) (Nat.le_of_ble_eq_true rfl) (Nat.le_of_ble_eq_true rfl) (Nat.le_of_ble_eq_true rfl) (Nat.le_of_ble_eq_true rfl) hlocks (fun t _ h1 h2 => ⟨(), trivial, ⟨⟨by rw [ev]; rfl, by rw [ev]; decide⟩, hP.kept (fun k q hk => h2 q.1 (hP k q hk).lt), hD⟩, ⟨h1, fun q hq _ => h2 q hq⟩⟩) t_nil (Nat.le_of_ble_eq_true rfl) (Nat.le_of_ble_eq_true rfl)
    · refine lv_iload_n hx hb dX2_repay_32 rfl (lv_at hl 0 rfl) ?_
      refine lv_if_ne (tgt := 46) hx hb dX2_repay_33 (by decide) (fun c_33 => ?_) (fun c_33 => ?_)
      · refine lv_aload_n hx hb dX2_repay_46 rfl (lv_at hl 1 rfl) ?_
        refine caM (va_runVN (As := []) (rest := []) ⟨hx, hb, hml, hown, hts⟩ (c_X0_settle l G y a b n la L s.heap.size i hi (pd i) (hpd i hi).1 (hpd i hi).2) ⟨va_cnB (host := "FundBook") 0 hts gX2_repay_X0_settle_n117 rfl rfl rfl (hK.nw (by decide +kernel)) (hts (.initialized RX0) (by decide +kernel)) (by decide +kernel) ⟨Nat.le_of_ble_eq_true rfl, Nat.le_of_ble_eq_true rfl⟩, hts (.instanceMethod yX0_settle) (by decide +kernel), hts (.selects RX0 yX0_settle yX0_settle) (by decide +kernel)⟩ ⟨mP_bl, va_recv hK.1 hP (ci := 0) (q0 := 17 + 3 * i) rfl ((bkW_get hi 0 (by decide)).trans rfl), fun U hU hW => ⟨rfl, by rw [hU], by rw [hU]; exact hP, Kb.moved hW hK, hD.weaken (fun _ _ _ _ => trivial)⟩⟩ rfl rfl hl.1 rfl (lv_room (Nat.le_of_ble_eq_true rfl)) dX2_repay_47 ⟨Nat.le_of_ble_eq_true rfl, Nat.le_of_ble_eq_true rfl⟩) hS (freeW hD hS hA) (freeW hD hS hA) (fun _ H locs _ hP hD _ _ hS => ?_)
        refine W.eq (g2 := F0 m 50 ls []) rfl ?_
        have hP : va_P G vwCl (bkW y a b n la (u3 L i (nI 6))) H := hP
        have hD : va_D A (bkW y a b n la (u3 L i (nI 6))) := hD
        refine lv_iload_n hx hb dX2_repay_50 rfl (lv_at hl 0 rfl) ?_
        have ev : (xRepay n L pd (nI i)) = 0 := by unfold xRepay; rw [cnI (by omega)]; exact (if_neg hxx).trans ((if_neg c_29).trans ((if_neg c_33)))
        refine vx_ret ?_
        refine W.widen (k := 1) (n := 6) (Nat.le_of_ble_eq_true rfl) (Nat.le_of_ble_eq_true rfl) ?_
        exact W.iret (v := lUnp (L i) (pd i)) hx hb hr (fun t ht hW => ⟨⟨(), congrArg (fun z => Outcome.returned (some (.int z))) (by rw [cnI (by omega)]), ev, by rw [ht]; rw [cnI (by omega)]; exact hP, by rw [cnI (by omega)]; exact hD⟩, hS.F ht⟩) hS.2.2 dX2_repay_51
      · have ev : (xRepay n L pd (nI i)) = 3 := by unfold xRepay; rw [cnI (by omega)]; exact (if_neg hxx).trans ((if_neg c_29).trans ((if_pos c_33)))
        obtain ⟨sa, hsa⟩ := hK.2.2.2.1 (115, "it has no option, or is paid back") (by decide +kernel)
        exact vx_throwS (names := ["java/lang/RuntimeException", "java/lang/Exception"]) (cls := "java/lang/IllegalStateException") (text := "it has no option, or is paid back") hx hb hlt hown (by decide +kernel) (by decide +kernel) (hts (.classLink RX2 84 "java/lang/IllegalStateException") (by decide +kernel)) (hts (.initialized "java/lang/IllegalStateException") (by decide +kernel)) hsa (vx_hat (B := .castable "java/lang/IllegalStateException" "java/lang/IllegalStateException" :: twD.map Cond.declares) (fun w hw => hts w (List.mem_cons_of_mem _ (List.mem_append_right _ hw))) (by decide +kernel) (hK.2.thrB (by decide +kernel))) (by decide +kernel) hZ.1 hZ.2 hS (by rw [hml]; exact hl.1) dX2_repay_36 dX2_repay_39 dX2_repay_40 dX2_repay_42 dX2_repay_45 (fun x hx => (hout x hx).elim) (Nat.le_of_ble_eq_true rfl) (Nat.le_of_ble_eq_true rfl) (Nat.le_of_ble_eq_true rfl) (Nat.le_of_ble_eq_true rfl) hlocks (fun t _ h1 h2 => ⟨(), trivial, ⟨⟨by rw [ev]; rfl, by rw [ev]; decide⟩, hP.kept (fun k q hk => h2 q.1 (hP k q hk).lt), hD⟩, ⟨h1, fun q hq _ => h2 q hq⟩⟩) t_nil (Nat.le_of_ble_eq_true rfl) (Nat.le_of_ble_eq_true rfl)
set_option maxHeartbeats 4000000 in
set_option maxRecDepth 100000 in
theorem c_X2_deposit (l : Launch) (hlt : l.stackTraces = false) (G : va_G) (y : Nat → ClassId) (a : Nat → Nat) (b : MS) (n : Nat) (la : Nat → Nat → Nat) (L : LNS) (sz : Nat) (x ch : Int32) : vx_Met l yX2_deposit wsX2_deposit ({ frames := 6, cells := 1, slots := 6, locals := 82 }) (xP G y [.ref (a 13), .int x, .int ch] (bkW y a b n la L) sz) (mQ G (fun _ : Unit => some (.int (b 7 (cn x) + ch))) (fun _ => (xDep b x ch) = 0) (fun _ => bkW y a (bDep b (cn x) ch) n la L) (va_A (bkW y a b n la L) sz)) (xX G (fun E => E = exN ((xDep b x ch)) ∧ ¬ (xDep b x ch) = 0) (bkW y a b n la L) (va_A (bkW y a b n la L) sz)) 1 6 (va_A (bkW y a b n la L) sz) := by
  refine vx_ofW (cc := cX2_deposit) (maxL := 4) (ret := (some .int)) (by decide) rfl ?_
  intro p e s m args below meth c s₁ B hml hout hv
  obtain ⟨rfl, hsz, hP, hK, hD0, hZ⟩ := hv
  have hx := B.exec
  have hb := B.bytes
  have hr := B.returns
  have hts := atoms_spec (ws := wsX2_deposit) B.pre
  have hown : s.vm.findClass RX2 = some m.cls := findClass_of_methodNamed B.named
  have hlocks := B.notSynchronized
  subst hsz
  have hD := hD0.self (sz := s.heap.size)
  generalize hAe : va_A (bkW y a b n la L) s.heap.size = A at hD hZ ⊢
  have hA : ∀ q : Nat, s.heap.size ≤ q → A q := fun q h => by rw [← hAe]; exact Or.inr h
  have hS : va_S A s.heap s.heap [] := va_S.rf
  have hP : va_P G vwCl (bkW y a b n la L) s.heap := hP
  have hl := lv_entry ([.ref (a 13), .int x, .int ch]) (n := 4) (Nat.le_of_ble_eq_true rfl)
  rw [lg_entry_eq]
  generalize (lg_sl ([.ref (a 13), .int x, .int ch]) ++ List.replicate (4 - (lg_sl ([.ref (a 13), .int x, .int ch])).length) Slot.unset).toArray = ls at hl ⊢
  have hin2 : ∀ w ∈ wsX20, w ∈ wsX2_deposit := by decide +kernel
  have hl : lv_has ls 4 [(0, .ref (a 13)), (1, .int x), (2, .int ch)] := hl
  refine lv_iload_n hx hb dX2_deposit_0 rfl (lv_at hl 1 rfl) ?_
  refine lv_if_lt (tgt := 9) hx hb dX2_deposit_1 (by decide) (fun c_1 => ?_) (fun c_1 => ?_)
  · have ev : (xDep b x ch) = 1 := by unfold xDep; exact (if_pos c_1)
    obtain ⟨sa, hsa⟩ := hK.2.2.2.1 (120, "no such branch") (by decide +kernel)
    exact vx_throwS (names := ["java/lang/RuntimeException", "java/lang/Exception"]) (cls := "java/lang/IndexOutOfBoundsException") (text := "no such branch") hx hb hlt hown (by decide +kernel) (by decide +kernel) (hts (.classLink RX2 59 "java/lang/IndexOutOfBoundsException") (by decide +kernel)) (hts (.initialized "java/lang/IndexOutOfBoundsException") (by decide +kernel)) hsa (vx_hat (B := .castable "java/lang/IndexOutOfBoundsException" "java/lang/IndexOutOfBoundsException" :: twD.map Cond.declares) (fun w hw => hts w (List.mem_cons_of_mem _ (List.mem_append_left _ (List.mem_append_left _ (List.mem_append_right _ hw))))) (by decide +kernel) (hK.2.thrB (by decide +kernel))) (by decide +kernel) hZ.1 hZ.2 hS (by rw [hml]; exact hl.1) dX2_deposit_9 dX2_deposit_12 dX2_deposit_13 dX2_deposit_15 dX2_deposit_18 (fun x hx => (hout x hx).elim) (Nat.le_of_ble_eq_true rfl) (Nat.le_of_ble_eq_true rfl) (Nat.le_of_ble_eq_true rfl) (Nat.le_of_ble_eq_true rfl) hlocks (fun t _ h1 h2 => ⟨(), trivial, ⟨⟨by rw [ev]; rfl, by rw [ev]; decide⟩, hP.kept (fun k q hk => h2 q.1 (hP k q hk).lt), hD⟩, ⟨h1, fun q hq _ => h2 q hq⟩⟩) t_nil (Nat.le_of_ble_eq_true rfl) (Nat.le_of_ble_eq_true rfl)
  · refine lv_iload_n hx hb dX2_deposit_4 rfl (lv_at hl 1 rfl) ?_
    refine lv_iconst (v := 3) hx hb dX2_deposit_5 (by decide) ?_
    refine lv_icmp_lt (tgt := 19) hx hb dX2_deposit_6 (by decide) (fun c_6 => ?_) (fun c_6 => ?_)
    · refine lv_iload_n hx hb dX2_deposit_19 rfl (lv_at hl 2 rfl) ?_
      refine lv_ldc (v := (-10000000)) hx hb hown (hts (.constant RX2 122 (-10000000)) (by decide +kernel)) dX2_deposit_20 ?_
      refine lv_icmp_lt (tgt := 31) hx hb dX2_deposit_22 (by decide) (fun c_22 => ?_) (fun c_22 => ?_)
      · have ev : (xDep b x ch) = 2 := by unfold xDep; exact (if_neg c_1).trans ((if_neg (Int32.not_le.mpr c_6)).trans ((if_pos c_22)))
        obtain ⟨sa, hsa⟩ := hK.2.2.2.1 (123, "change out of range") (by decide +kernel)
        exact vx_throwS (names := ["java/lang/RuntimeException", "java/lang/Exception"]) (cls := "java/lang/IllegalArgumentException") (text := "change out of range") hx hb hlt hown (by decide +kernel) (by decide +kernel) (hts (.classLink RX2 66 "java/lang/IllegalArgumentException") (by decide +kernel)) (hts (.initialized "java/lang/IllegalArgumentException") (by decide +kernel)) hsa (vx_hat (B := .castable "java/lang/IllegalArgumentException" "java/lang/IllegalArgumentException" :: twD.map Cond.declares) (fun w hw => hts w (List.mem_cons_of_mem _ (List.mem_append_left _ (List.mem_append_right _ hw)))) (by decide +kernel) (hK.2.thrB (by decide +kernel))) (by decide +kernel) hZ.1 hZ.2 hS (by rw [hml]; exact hl.1) dX2_deposit_31 dX2_deposit_34 dX2_deposit_35 dX2_deposit_37 dX2_deposit_40 (fun x hx => (hout x hx).elim) (Nat.le_of_ble_eq_true rfl) (Nat.le_of_ble_eq_true rfl) (Nat.le_of_ble_eq_true rfl) (Nat.le_of_ble_eq_true rfl) hlocks (fun t _ h1 h2 => ⟨(), trivial, ⟨⟨by rw [ev]; rfl, by rw [ev]; decide⟩, hP.kept (fun k q hk => h2 q.1 (hP k q hk).lt), hD⟩, ⟨h1, fun q hq _ => h2 q hq⟩⟩) t_nil (Nat.le_of_ble_eq_true rfl) (Nat.le_of_ble_eq_true rfl)
      · refine lv_iload_n hx hb dX2_deposit_25 rfl (lv_at hl 2 rfl) ?_
        refine lv_ldc (v := 10000000) hx hb hown (hts (.constant RX2 79 10000000) (by decide +kernel)) dX2_deposit_26 ?_
        refine lv_icmp_le (tgt := 41) hx hb dX2_deposit_28 (by decide) (fun c_28 => ?_) (fun c_28 => ?_)
        · obtain ⟨i, hi, rfl⟩ := inR (M := 3) c_1 (Int32.not_le.mpr c_6) (by decide)
          refine lv_aload_n hx hb dX2_deposit_41 rfl (lv_at hl 0 rfl) ?_
          refine bkG (b := b) (val := .ref (a 7)) hx hb hts hin2 hown hK hP 7 (by decide) (hts (.fieldLink RX2 35 "FundBook" "balances" "[I") (by decide +kernel)) rfl dX2_deposit_42 ?_
          refine lv_iload_n hx hb dX2_deposit_45 rfl (lv_at hl 1 rfl) ?_
          refine ldI (f := b 7) hx hb hK hP 3 bg_7 i rfl (by omega) (by decide) dX2_deposit_46 ?_
          refine lv_iload_n hx hb dX2_deposit_47 rfl (lv_at hl 2 rfl) ?_
          refine lv_iadd hx hb dX2_deposit_48 ?_
          refine lv_istore_n (lv' := [(3, .int (b 7 i + ch)), (0, .ref (a 13)), (1, .int (nI i)), (2, .int ch)]) hx hb dX2_deposit_49 rfl hl (by decide) rfl (fun ls hl => ?_)
          refine lv_iload_n hx hb dX2_deposit_50 rfl (lv_at hl 0 rfl) ?_
          refine lv_if_lt (tgt := 60) hx hb dX2_deposit_51 (by decide) (fun c_51 => ?_) (fun c_51 => ?_)
          · have ev : (xDep b (nI i) ch) = 3 := by unfold xDep; rw [cnI (by omega)]; exact (if_neg c_1).trans ((if_neg (Int32.not_le.mpr c_6)).trans ((if_neg c_22).trans ((if_neg (Int32.not_lt.mpr c_28)).trans ((if_pos c_51)))))
            obtain ⟨sa, hsa⟩ := hK.2.2.2.1 (125, "balance out of range") (by decide +kernel)
            exact vx_throwS (names := ["java/lang/RuntimeException", "java/lang/Exception"]) (cls := "java/lang/IllegalStateException") (text := "balance out of range") hx hb hlt hown (by decide +kernel) (by decide +kernel) (hts (.classLink RX2 84 "java/lang/IllegalStateException") (by decide +kernel)) (hts (.initialized "java/lang/IllegalStateException") (by decide +kernel)) hsa (vx_hat (B := .castable "java/lang/IllegalStateException" "java/lang/IllegalStateException" :: twD.map Cond.declares) (fun w hw => hts w (List.mem_cons_of_mem _ (List.mem_append_right _ hw))) (by decide +kernel) (hK.2.thrB (by decide +kernel))) (by decide +kernel) hZ.1 hZ.2 hS (by rw [hml]; exact hl.1) dX2_deposit_60 dX2_deposit_63 dX2_deposit_64 dX2_deposit_66 dX2_deposit_69 (fun x hx => (hout x hx).elim) (Nat.le_of_ble_eq_true rfl) (Nat.le_of_ble_eq_true rfl) (Nat.le_of_ble_eq_true rfl) (Nat.le_of_ble_eq_true rfl) hlocks (fun t _ h1 h2 => ⟨(), trivial, ⟨⟨by rw [ev]; rfl, by rw [ev]; decide⟩, hP.kept (fun k q hk => h2 q.1 (hP k q hk).lt), hD⟩, ⟨h1, fun q hq _ => h2 q hq⟩⟩) t_nil (Nat.le_of_ble_eq_true rfl) (Nat.le_of_ble_eq_true rfl)
          · refine lv_iload_n hx hb dX2_deposit_54 rfl (lv_at hl 0 rfl) ?_
            refine lv_ldc (v := 10000000) hx hb hown (hts (.constant RX2 79 10000000) (by decide +kernel)) dX2_deposit_55 ?_
            refine lv_icmp_le (tgt := 70) hx hb dX2_deposit_57 (by decide) (fun c_57 => ?_) (fun c_57 => ?_)
            · have ev : xDep b (nI i) ch = 0 := by unfold xDep; rw [cnI (by omega)]; exact (if_neg c_1).trans ((if_neg (Int32.not_le.mpr c_6)).trans ((if_neg c_22).trans ((if_neg (Int32.not_lt.mpr c_28)).trans ((if_neg c_51).trans ((if_neg (Int32.not_lt.mpr c_57)))))))
              refine lv_aload_n hx hb dX2_deposit_70 rfl (lv_at hl 1 rfl) ?_
              refine bkG (b := b) (val := .ref (a 7)) hx hb hts hin2 hown hK hP 7 (by decide) (hts (.fieldLink RX2 35 "FundBook" "balances" "[I") (by decide +kernel)) rfl dX2_deposit_71 ?_
              refine lv_iload_n hx hb dX2_deposit_74 rfl (lv_at hl 2 rfl) ?_
              refine lv_iload_n hx hb dX2_deposit_75 rfl (lv_at hl 0 rfl) ?_
              refine stI (f := b 7) (ws1 := bkW y a (u2 b 7 i (b 7 i + ch)) n la L) hx hb hK hP hD hS 3 bg_7 i rfl (by omega) (by decide) bs_7 dX2_deposit_76 (fun H locs hP hD hS => ?_)
              refine lv_aload_n hx hb dX2_deposit_77 rfl (lv_at hl 1 rfl) ?_
              refine bkG (b := (u2 b 7 i (b 7 i + ch))) (val := .int (b 13 4)) hx hb hts hin2 hown hK hP 4 (by decide) (hts (.fieldLink RX2 23 "FundBook" "now" "I") (by decide +kernel)) rfl dX2_deposit_78 ?_
              refine lv_if_ne (tgt := 105) hx hb dX2_deposit_81 (by decide) (fun c_81 => ?_) (fun c_81 => ?_)
              · refine lv_iload_n hx hb dX2_deposit_105 rfl (lv_at hl 0 rfl) ?_
                have e2 : bDep b i ch = (u2 b 7 i (b 7 i + ch)) := by unfold bDep; exact if_neg (fun q => c_81 q.1)
                refine vx_ret ?_
                refine W.widen (k := 1) (n := 6) (Nat.le_of_ble_eq_true rfl) (Nat.le_of_ble_eq_true rfl) ?_
                exact W.iret (v := (b 7 i + ch)) hx hb hr (fun t ht hW => ⟨⟨(), congrArg (fun z => Outcome.returned (some (.int z))) (by rw [cnI (by omega)]), ev, by rw [ht]; rw [cnI (by omega), e2]; exact hP, by rw [cnI (by omega), e2]; exact hD⟩, hS.F ht⟩) hS.2.2 dX2_deposit_106
              · refine lv_iload_n hx hb dX2_deposit_84 rfl (lv_at hl 3 rfl) ?_
                refine lv_if_eq (tgt := 105) hx hb dX2_deposit_85 (by decide) (fun c_85 => ?_) (fun c_85 => ?_)
                · refine lv_iload_n hx hb dX2_deposit_105 rfl (lv_at hl 0 rfl) ?_
                  have e2 : bDep b i ch = (u2 b 7 i (b 7 i + ch)) := by unfold bDep; exact if_neg (fun q => q.2 c_85)
                  refine vx_ret ?_
                  refine W.widen (k := 1) (n := 6) (Nat.le_of_ble_eq_true rfl) (Nat.le_of_ble_eq_true rfl) ?_
                  exact W.iret (v := (b 7 i + ch)) hx hb hr (fun t ht hW => ⟨⟨(), congrArg (fun z => Outcome.returned (some (.int z))) (by rw [cnI (by omega)]), ev, by rw [ht]; rw [cnI (by omega), e2]; exact hP, by rw [cnI (by omega), e2]; exact hD⟩, hS.F ht⟩) hS.2.2 dX2_deposit_106
                · refine lv_aload_n hx hb dX2_deposit_88 rfl (lv_at hl 1 rfl) ?_
                  refine bkG (b := (u2 b 7 i (b 7 i + ch))) (val := .ref (a 8)) hx hb hts hin2 hown hK hP 8 (by decide) (hts (.fieldLink RX2 41 "FundBook" "replica" "LFundBook$Replica;") (by decide +kernel)) rfl dX2_deposit_89 ?_
                  refine lv_aload_n hx hb dX2_deposit_92 rfl (lv_at hl 1 rfl) ?_
                  refine caR (r := .int (bTA (u2 b 7 i (b 7 i + ch)))) (va_runV (As := []) (rest := [.ref (a 8)]) ⟨hx, hb, hml, hown, hts⟩ (c_X2_trancheAmount l G y a (u2 b 7 i (b 7 i + ch)) n la L) (cwV 0 hts gX2_deposit_X2_trancheAmount rfl rfl rfl (by decide +kernel) ⟨Nat.le_of_ble_eq_true rfl, Nat.le_of_ble_eq_true rfl⟩) ⟨rP_bl, va_recv hK.1 hP (ci := 2) (q0 := 0) rfl rfl, fun U hU hW => ⟨rfl, by rw [hU]; exact hP, Kb.moved hW hK⟩⟩ rfl rfl hl.1 rfl (lv_room (Nat.le_of_ble_eq_true rfl)) dX2_deposit_93 ⟨Nat.le_of_ble_eq_true rfl, Nat.le_of_ble_eq_true rfl⟩) ?_
                  refine lv_aload_n hx hb dX2_deposit_96 rfl (lv_at hl 1 rfl) ?_
                  refine bkG (b := (u2 b 7 i (b 7 i + ch))) (val := .ref (a 0)) hx hb hts hin2 hown hK hP 0 (by decide) (hts (.fieldLink RX2 9 "FundBook" "curve" "[I") (by decide +kernel)) rfl dX2_deposit_97 ?_
                  refine lv_iconst (v := 5) hx hb dX2_deposit_100 (by decide) ?_
                  refine ldI (f := b 0) hx hb hK hP 1 rfl 5 rfl (by decide) (by decide) dX2_deposit_101 ?_
                  refine caM (va_runVN (As := [.int (bTA (u2 b 7 i (b 7 i + ch))), .int (b 0 5)]) (rest := []) ⟨hx, hb, hml, hown, hts⟩ (c_X1_layAll l G y a (u2 b 7 i (b 7 i + ch)) n la L H.size (bTA (u2 b 7 i (b 7 i + ch))) (b 0 5)) ⟨va_cnB (host := "FundBook") 2 hts gX2_deposit_X1_layAll_n130 rfl rfl rfl (hK.nw (by decide +kernel)) (hts (.initialized RX1) (by decide +kernel)) (by decide +kernel) ⟨Nat.le_of_ble_eq_true rfl, Nat.le_of_ble_eq_true rfl⟩, hts (.instanceMethod yX1_layAll) (by decide +kernel), hts (.selects RX1 yX1_layAll yX1_layAll) (by decide +kernel)⟩ ⟨mP_bl, va_recv hK.1 hP (ci := 1) (q0 := 4) rfl rfl, fun U hU hW => ⟨rfl, by rw [hU], by rw [hU]; exact hP, Kb.moved hW hK, hD.weaken (fun _ _ _ _ => trivial)⟩⟩ rfl rfl hl.1 rfl (lv_room (Nat.le_of_ble_eq_true rfl)) dX2_deposit_102 ⟨Nat.le_of_ble_eq_true rfl, Nat.le_of_ble_eq_true rfl⟩) hS (freeW hD hS hA) (freeW hD hS hA) (fun _ H locs _ hP hD _ _ hS => ?_)
                  refine W.eq (g2 := F0 m 105 ls []) rfl ?_
                  have hP : va_P G vwCl (bkW y a (bLA (u2 b 7 i (b 7 i + ch)) (bTA (u2 b 7 i (b 7 i + ch))) (b 0 5) 6) n la L) H := hP
                  have hD : va_D A (bkW y a (bLA (u2 b 7 i (b 7 i + ch)) (bTA (u2 b 7 i (b 7 i + ch))) (b 0 5) 6) n la L) := hD
                  refine lv_iload_n hx hb dX2_deposit_105 rfl (lv_at hl 0 rfl) ?_
                  have e2 : bDep b i ch = (bLA (u2 b 7 i (b 7 i + ch)) (bTA (u2 b 7 i (b 7 i + ch))) (b 0 5) 6) := by unfold bDep; exact if_pos ⟨c_81, c_85⟩
                  refine vx_ret ?_
                  refine W.widen (k := 1) (n := 6) (Nat.le_of_ble_eq_true rfl) (Nat.le_of_ble_eq_true rfl) ?_
                  exact W.iret (v := (b 7 i + ch)) hx hb hr (fun t ht hW => ⟨⟨(), congrArg (fun z => Outcome.returned (some (.int z))) (by rw [cnI (by omega)]), ev, by rw [ht]; rw [cnI (by omega), e2]; exact hP, by rw [cnI (by omega), e2]; exact hD⟩, hS.F ht⟩) hS.2.2 dX2_deposit_106
            · have ev : (xDep b (nI i) ch) = 3 := by unfold xDep; rw [cnI (by omega)]; exact (if_neg c_1).trans ((if_neg (Int32.not_le.mpr c_6)).trans ((if_neg c_22).trans ((if_neg (Int32.not_lt.mpr c_28)).trans ((if_neg c_51).trans ((if_pos (Int32.not_le.mp c_57)))))))
              obtain ⟨sa, hsa⟩ := hK.2.2.2.1 (125, "balance out of range") (by decide +kernel)
              exact vx_throwS (names := ["java/lang/RuntimeException", "java/lang/Exception"]) (cls := "java/lang/IllegalStateException") (text := "balance out of range") hx hb hlt hown (by decide +kernel) (by decide +kernel) (hts (.classLink RX2 84 "java/lang/IllegalStateException") (by decide +kernel)) (hts (.initialized "java/lang/IllegalStateException") (by decide +kernel)) hsa (vx_hat (B := .castable "java/lang/IllegalStateException" "java/lang/IllegalStateException" :: twD.map Cond.declares) (fun w hw => hts w (List.mem_cons_of_mem _ (List.mem_append_right _ hw))) (by decide +kernel) (hK.2.thrB (by decide +kernel))) (by decide +kernel) hZ.1 hZ.2 hS (by rw [hml]; exact hl.1) dX2_deposit_60 dX2_deposit_63 dX2_deposit_64 dX2_deposit_66 dX2_deposit_69 (fun x hx => (hout x hx).elim) (Nat.le_of_ble_eq_true rfl) (Nat.le_of_ble_eq_true rfl) (Nat.le_of_ble_eq_true rfl) (Nat.le_of_ble_eq_true rfl) hlocks (fun t _ h1 h2 => ⟨(), trivial, ⟨⟨by rw [ev]; rfl, by rw [ev]; decide⟩, hP.kept (fun k q hk => h2 q.1 (hP k q hk).lt), hD⟩, ⟨h1, fun q hq _ => h2 q hq⟩⟩) t_nil (Nat.le_of_ble_eq_true rfl) (Nat.le_of_ble_eq_true rfl)
        · have ev : (xDep b x ch) = 2 := by unfold xDep; exact (if_neg c_1).trans ((if_neg (Int32.not_le.mpr c_6)).trans ((if_neg c_22).trans ((if_pos (Int32.not_le.mp c_28)))))
          obtain ⟨sa, hsa⟩ := hK.2.2.2.1 (123, "change out of range") (by decide +kernel)
          exact vx_throwS (names := ["java/lang/RuntimeException", "java/lang/Exception"]) (cls := "java/lang/IllegalArgumentException") (text := "change out of range") hx hb hlt hown (by decide +kernel) (by decide +kernel) (hts (.classLink RX2 66 "java/lang/IllegalArgumentException") (by decide +kernel)) (hts (.initialized "java/lang/IllegalArgumentException") (by decide +kernel)) hsa (vx_hat (B := .castable "java/lang/IllegalArgumentException" "java/lang/IllegalArgumentException" :: twD.map Cond.declares) (fun w hw => hts w (List.mem_cons_of_mem _ (List.mem_append_left _ (List.mem_append_right _ hw)))) (by decide +kernel) (hK.2.thrB (by decide +kernel))) (by decide +kernel) hZ.1 hZ.2 hS (by rw [hml]; exact hl.1) dX2_deposit_31 dX2_deposit_34 dX2_deposit_35 dX2_deposit_37 dX2_deposit_40 (fun x hx => (hout x hx).elim) (Nat.le_of_ble_eq_true rfl) (Nat.le_of_ble_eq_true rfl) (Nat.le_of_ble_eq_true rfl) (Nat.le_of_ble_eq_true rfl) hlocks (fun t _ h1 h2 => ⟨(), trivial, ⟨⟨by rw [ev]; rfl, by rw [ev]; decide⟩, hP.kept (fun k q hk => h2 q.1 (hP k q hk).lt), hD⟩, ⟨h1, fun q hq _ => h2 q hq⟩⟩) t_nil (Nat.le_of_ble_eq_true rfl) (Nat.le_of_ble_eq_true rfl)
    · have ev : (xDep b x ch) = 1 := by unfold xDep; exact (if_neg c_1).trans ((if_pos (Int32.not_lt.mp c_6)))
      obtain ⟨sa, hsa⟩ := hK.2.2.2.1 (120, "no such branch") (by decide +kernel)
      exact vx_throwS (names := ["java/lang/RuntimeException", "java/lang/Exception"]) (cls := "java/lang/IndexOutOfBoundsException") (text := "no such branch") hx hb hlt hown (by decide +kernel) (by decide +kernel) (hts (.classLink RX2 59 "java/lang/IndexOutOfBoundsException") (by decide +kernel)) (hts (.initialized "java/lang/IndexOutOfBoundsException") (by decide +kernel)) hsa (vx_hat (B := .castable "java/lang/IndexOutOfBoundsException" "java/lang/IndexOutOfBoundsException" :: twD.map Cond.declares) (fun w hw => hts w (List.mem_cons_of_mem _ (List.mem_append_left _ (List.mem_append_left _ (List.mem_append_right _ hw))))) (by decide +kernel) (hK.2.thrB (by decide +kernel))) (by decide +kernel) hZ.1 hZ.2 hS (by rw [hml]; exact hl.1) dX2_deposit_9 dX2_deposit_12 dX2_deposit_13 dX2_deposit_15 dX2_deposit_18 (fun x hx => (hout x hx).elim) (Nat.le_of_ble_eq_true rfl) (Nat.le_of_ble_eq_true rfl) (Nat.le_of_ble_eq_true rfl) (Nat.le_of_ble_eq_true rfl) hlocks (fun t _ h1 h2 => ⟨(), trivial, ⟨⟨by rw [ev]; rfl, by rw [ev]; decide⟩, hP.kept (fun k q hk => h2 q.1 (hP k q hk).lt), hD⟩, ⟨h1, fun q hq _ => h2 q hq⟩⟩) t_nil (Nat.le_of_ble_eq_true rfl) (Nat.le_of_ble_eq_true rfl)
set_option maxHeartbeats 4000000 in
set_option maxRecDepth 100000 in
theorem c_X2_left (l : Launch) (hlt : l.stackTraces = false) (G : va_G) (y : Nat → ClassId) (a : Nat → Nat) (b : MS) (n : Nat) (la : Nat → Nat → Nat) (L : LNS) (sz : Nat) (hn24 : n ≤ 24) (pd : Nat → Nat) (hpd : ∀ k, k < n → L k 0 7 = nI (pd k) ∧ pd k ≤ 6) (x : Int32) : vx_Met l yX2_left wsX2_left ({ frames := 6, cells := 1, slots := 6, locals := 82 }) (xP G y [.ref (a 13), .int x] (bkW y a b n la L) sz) (mQ G (fun _ : Unit => some (.int (lUnp (L (cn x)) (pd (cn x))))) (fun _ => (if mIn x 0 (nI n - 1) = 0 then 1 else 0) = 0) (fun _ => bkW y a b n la L) (va_A (bkW y a b n la L) sz)) (xX G (fun E => E = exN ((if mIn x 0 (nI n - 1) = 0 then 1 else 0)) ∧ ¬ (if mIn x 0 (nI n - 1) = 0 then 1 else 0) = 0) (bkW y a b n la L) (va_A (bkW y a b n la L) sz)) 1 6 (va_A (bkW y a b n la L) sz) := by
  refine vx_ofW (cc := cX2_left) (maxL := 3) (ret := (some .int)) (by decide) rfl ?_
  intro p e s m args below meth c s₁ B hml hout hv
  obtain ⟨rfl, hsz, hP, hK, hD0, hZ⟩ := hv
  have hx := B.exec
  have hb := B.bytes
  have hr := B.returns
  have hts := atoms_spec (ws := wsX2_left) B.pre
  have hown : s.vm.findClass RX2 = some m.cls := findClass_of_methodNamed B.named
  have hlocks := B.notSynchronized
  subst hsz
  have hD := hD0.self (sz := s.heap.size)
  generalize hAe : va_A (bkW y a b n la L) s.heap.size = A at hD hZ ⊢
  have hA : ∀ q : Nat, s.heap.size ≤ q → A q := fun q h => by rw [← hAe]; exact Or.inr h
  have hS : va_S A s.heap s.heap [] := va_S.rf
  have hP : va_P G vwCl (bkW y a b n la L) s.heap := hP
  have hl := lv_entry ([.ref (a 13), .int x]) (n := 3) (Nat.le_of_ble_eq_true rfl)
  rw [lg_entry_eq]
  generalize (lg_sl ([.ref (a 13), .int x]) ++ List.replicate (3 - (lg_sl ([.ref (a 13), .int x])).length) Slot.unset).toArray = ls at hl ⊢
  have hl : lv_has ls 3 [(0, .ref (a 13)), (1, .int x)] := hl
  refine lv_aload_n hx hb dX2_left_0 rfl (lv_at hl 0 rfl) ?_
  refine lv_iload_n hx hb dX2_left_1 rfl (lv_at hl 1 rfl) ?_
  refine caR (r := va_rf (bFind n la x)) (va_runV (As := [.int x]) (rest := []) ⟨hx, hb, hml, hown, hts⟩ (c_X2_findLoan l G y a b n la L x) (cwV 1 hts gX2_left_X2_findLoan rfl rfl rfl (by decide +kernel) ⟨Nat.le_of_ble_eq_true rfl, Nat.le_of_ble_eq_true rfl⟩) ⟨rP_bl, va_recv hK.1 hP (ci := 2) (q0 := 0) rfl rfl, fun U hU hW => ⟨rfl, by rw [hU]; exact hP, Kb.moved hW hK⟩⟩ rfl rfl hl.1 rfl (lv_room (Nat.le_of_ble_eq_true rfl)) dX2_left_2 ⟨Nat.le_of_ble_eq_true rfl, Nat.le_of_ble_eq_true rfl⟩) ?_
  by_cases hxx : mIn x 0 (nI n - 1) = 0
  · refine lv_optN (bFind_N hxx hn24) ?_
    refine lv_astore_nN (lv' := [(2, .null), (0, .ref (a 13)), (1, .int x)]) hx hb dX2_left_5 rfl hl (by decide) rfl (fun ls hl => ?_)
    refine lv_aload_nN hx hb dX2_left_6 rfl (lv_at hl 0 rfl) ?_
    refine lv_ifnonnullN hx hb dX2_left_7 ?_
    have ev : (if mIn x 0 (nI n - 1) = 0 then 1 else 0) = 1 := by exact if_pos hxx
    obtain ⟨sa, hsa⟩ := hK.2.2.2.1 (105, "no such loan") (by decide +kernel)
    exact vx_throwS (names := ["java/lang/RuntimeException", "java/lang/Exception"]) (cls := "java/lang/IndexOutOfBoundsException") (text := "no such loan") hx hb hlt hown (by decide +kernel) (by decide +kernel) (hts (.classLink RX2 59 "java/lang/IndexOutOfBoundsException") (by decide +kernel)) (hts (.initialized "java/lang/IndexOutOfBoundsException") (by decide +kernel)) hsa (vx_hat (B := .castable "java/lang/IndexOutOfBoundsException" "java/lang/IndexOutOfBoundsException" :: twD.map Cond.declares) (fun w hw => hts w (List.mem_cons_of_mem _ (List.mem_append_right _ hw))) (by decide +kernel) (hK.2.thrB (by decide +kernel))) (by decide +kernel) hZ.1 hZ.2 hS (by rw [hml]; exact hl.1) dX2_left_10 dX2_left_13 dX2_left_14 dX2_left_16 dX2_left_19 (fun x hx => (hout x hx).elim) (Nat.le_of_ble_eq_true rfl) (Nat.le_of_ble_eq_true rfl) (Nat.le_of_ble_eq_true rfl) (Nat.le_of_ble_eq_true rfl) hlocks (fun t _ h1 h2 => ⟨(), trivial, ⟨⟨by rw [ev]; rfl, by rw [ev]; decide⟩, hP.kept (fun k q hk => h2 q.1 (hP k q hk).lt), hD⟩, ⟨h1, fun q hq _ => h2 q hq⟩⟩) t_nil (Nat.le_of_ble_eq_true rfl) (Nat.le_of_ble_eq_true rfl)
  · obtain ⟨i, hi, rfl⟩ := inL hxx (by omega)
    refine lv_optS (bFind_S hi hn24) ?_
    refine lv_astore_n (lv' := [(2, .ref (la i 0)), (0, .ref (a 13)), (1, .int (nI i))]) hx hb dX2_left_5 rfl hl (by decide) rfl (fun ls hl => ?_)
    refine lv_aload_n hx hb dX2_left_6 rfl (lv_at hl 0 rfl) ?_
    refine lv_ifnonnull (tgt := 20) hx hb dX2_left_7 (by decide) ?_
    refine lv_aload_n hx hb dX2_left_20 rfl (lv_at hl 0 rfl) ?_
    refine caR (r := .int (lUnp (L i) (pd i))) (va_runVN (As := []) (rest := []) ⟨hx, hb, hml, hown, hts⟩ (c_X0_unpaid l G y la L i (pd i) (hpd i hi).1 (hpd i hi).2) ⟨va_cnB (host := "FundBook") 0 hts gX2_left_X0_unpaid_n107 rfl rfl rfl (hK.nw (by decide +kernel)) (hts (.initialized RX0) (by decide +kernel)) (by decide +kernel) ⟨Nat.le_of_ble_eq_true rfl, Nat.le_of_ble_eq_true rfl⟩, hts (.instanceMethod yX0_unpaid) (by decide +kernel), hts (.selects RX0 yX0_unpaid yX0_unpaid) (by decide +kernel)⟩ ⟨rP_bl, va_recv hK.1 (bk_ln hP hi) (ci := 0) (q0 := 0) rfl rfl, fun U hU hW => ⟨rfl, by rw [hU]; exact (bk_ln hP hi), Kb.moved hW hK⟩⟩ rfl rfl hl.1 rfl (lv_room (Nat.le_of_ble_eq_true rfl)) dX2_left_21 ⟨Nat.le_of_ble_eq_true rfl, Nat.le_of_ble_eq_true rfl⟩) ?_
    refine vx_ret ?_
    refine W.widen (k := 1) (n := 6) (Nat.le_of_ble_eq_true rfl) (Nat.le_of_ble_eq_true rfl) ?_
    exact W.iret (v := lUnp (L i) (pd i)) hx hb hr (fun t ht hW => ⟨⟨(), congrArg (fun z => Outcome.returned (some (.int z))) (by rw [cnI (by omega)]), if_neg hxx, by rw [ht]; exact hP, by exact hD⟩, hS.F ht⟩) hS.2.2 dX2_left_24
set_option maxHeartbeats 4000000 in
set_option maxRecDepth 100000 in
theorem c_X2_bears (l : Launch) (hlt : l.stackTraces = false) (G : va_G) (y : Nat → ClassId) (a : Nat → Nat) (b : MS) (n : Nat) (la : Nat → Nat → Nat) (L : LNS) (sz : Nat) (hn24 : n ≤ 24) (pd : Nat → Nat) (hpd : ∀ k, k < n → L k 0 7 = nI (pd k) ∧ pd k ≤ 6) (x w : Int32) : vx_Met l yX2_bears wsX2_bears ({ frames := 6, cells := 1, slots := 6, locals := 82 }) (xP G y [.ref (a 13), .int x, .int w] (bkW y a b n la L) sz) (mQ G (fun _ : Unit => some (.int (bBear (L (cn x)) (pd (cn x)) w))) (fun _ => (xBears n x w) = 0) (fun _ => bkW y a b n la L) (va_A (bkW y a b n la L) sz)) (xX G (fun E => E = exN ((xBears n x w)) ∧ ¬ (xBears n x w) = 0) (bkW y a b n la L) (va_A (bkW y a b n la L) sz)) 1 6 (va_A (bkW y a b n la L) sz) := by
  refine vx_ofW (cc := cX2_bears) (maxL := 4) (ret := (some .int)) (by decide) rfl ?_
  intro p e s m args below meth c s₁ B hml hout hv
  obtain ⟨rfl, hsz, hP, hK, hD0, hZ⟩ := hv
  have hx := B.exec
  have hb := B.bytes
  have hr := B.returns
  have hts := atoms_spec (ws := wsX2_bears) B.pre
  have hown : s.vm.findClass RX2 = some m.cls := findClass_of_methodNamed B.named
  have hlocks := B.notSynchronized
  subst hsz
  have hD := hD0.self (sz := s.heap.size)
  generalize hAe : va_A (bkW y a b n la L) s.heap.size = A at hD hZ ⊢
  have hA : ∀ q : Nat, s.heap.size ≤ q → A q := fun q h => by rw [← hAe]; exact Or.inr h
  have hS : va_S A s.heap s.heap [] := va_S.rf
  have hP : va_P G vwCl (bkW y a b n la L) s.heap := hP
  have hl := lv_entry ([.ref (a 13), .int x, .int w]) (n := 4) (Nat.le_of_ble_eq_true rfl)
  rw [lg_entry_eq]
  generalize (lg_sl ([.ref (a 13), .int x, .int w]) ++ List.replicate (4 - (lg_sl ([.ref (a 13), .int x, .int w])).length) Slot.unset).toArray = ls at hl ⊢
  have hl : lv_has ls 4 [(0, .ref (a 13)), (1, .int x), (2, .int w)] := hl
  refine lv_aload_n hx hb dX2_bears_0 rfl (lv_at hl 0 rfl) ?_
  refine lv_iload_n hx hb dX2_bears_1 rfl (lv_at hl 1 rfl) ?_
  refine caR (r := va_rf (bFind n la x)) (va_runV (As := [.int x]) (rest := []) ⟨hx, hb, hml, hown, hts⟩ (c_X2_findLoan l G y a b n la L x) (cwV 1 hts gX2_bears_X2_findLoan rfl rfl rfl (by decide +kernel) ⟨Nat.le_of_ble_eq_true rfl, Nat.le_of_ble_eq_true rfl⟩) ⟨rP_bl, va_recv hK.1 hP (ci := 2) (q0 := 0) rfl rfl, fun U hU hW => ⟨rfl, by rw [hU]; exact hP, Kb.moved hW hK⟩⟩ rfl rfl hl.1 rfl (lv_room (Nat.le_of_ble_eq_true rfl)) dX2_bears_2 ⟨Nat.le_of_ble_eq_true rfl, Nat.le_of_ble_eq_true rfl⟩) ?_
  by_cases hxx : mIn x 0 (nI n - 1) = 0
  · refine lv_optN (bFind_N hxx hn24) ?_
    refine lv_astore_nN (lv' := [(3, .null), (0, .ref (a 13)), (1, .int x), (2, .int w)]) hx hb dX2_bears_5 rfl hl (by decide) rfl (fun ls hl => ?_)
    refine lv_aload_nN hx hb dX2_bears_6 rfl (lv_at hl 0 rfl) ?_
    refine lv_ifnonnullN hx hb dX2_bears_7 ?_
    have ev : (xBears n x w) = 1 := by unfold xBears; exact if_pos hxx
    obtain ⟨sa, hsa⟩ := hK.2.2.2.1 (105, "no such loan") (by decide +kernel)
    exact vx_throwS (names := ["java/lang/RuntimeException", "java/lang/Exception"]) (cls := "java/lang/IndexOutOfBoundsException") (text := "no such loan") hx hb hlt hown (by decide +kernel) (by decide +kernel) (hts (.classLink RX2 59 "java/lang/IndexOutOfBoundsException") (by decide +kernel)) (hts (.initialized "java/lang/IndexOutOfBoundsException") (by decide +kernel)) hsa (vx_hat (B := .castable "java/lang/IndexOutOfBoundsException" "java/lang/IndexOutOfBoundsException" :: twD.map Cond.declares) (fun w hw => hts w (List.mem_cons_of_mem _ (List.mem_append_left _ (List.mem_append_right _ hw)))) (by decide +kernel) (hK.2.thrB (by decide +kernel))) (by decide +kernel) hZ.1 hZ.2 hS (by rw [hml]; exact hl.1) dX2_bears_10 dX2_bears_13 dX2_bears_14 dX2_bears_16 dX2_bears_19 (fun x hx => (hout x hx).elim) (Nat.le_of_ble_eq_true rfl) (Nat.le_of_ble_eq_true rfl) (Nat.le_of_ble_eq_true rfl) (Nat.le_of_ble_eq_true rfl) hlocks (fun t _ h1 h2 => ⟨(), trivial, ⟨⟨by rw [ev]; rfl, by rw [ev]; decide⟩, hP.kept (fun k q hk => h2 q.1 (hP k q hk).lt), hD⟩, ⟨h1, fun q hq _ => h2 q hq⟩⟩) t_nil (Nat.le_of_ble_eq_true rfl) (Nat.le_of_ble_eq_true rfl)
  · obtain ⟨i, hi, rfl⟩ := inL hxx (by omega)
    refine lv_optS (bFind_S hi hn24) ?_
    refine lv_astore_n (lv' := [(3, .ref (la i 0)), (0, .ref (a 13)), (1, .int (nI i)), (2, .int w)]) hx hb dX2_bears_5 rfl hl (by decide) rfl (fun ls hl => ?_)
    refine lv_aload_n hx hb dX2_bears_6 rfl (lv_at hl 0 rfl) ?_
    refine lv_ifnonnull (tgt := 20) hx hb dX2_bears_7 (by decide) ?_
    refine lv_iload_n hx hb dX2_bears_20 rfl (lv_at hl 3 rfl) ?_
    by_cases hw : mIn w 0 3 = 0
    · have hw2 : w.toInt < 0 ∨ 3 < w.toInt := mIn_F3 hw
      refine lv_tableOut (tgt := 72) hx hb dX2_bears_21 hw2 (by decide) ?_
      have ev : (xBears n (nI i) w) = 2 := by unfold xBears; exact (if_neg hxx).trans ((if_pos hw))
      obtain ⟨sa, hsa⟩ := hK.2.2.2.1 (161, "what out of range") (by decide +kernel)
      exact vx_throwS (names := ["java/lang/RuntimeException", "java/lang/Exception"]) (cls := "java/lang/IllegalArgumentException") (text := "what out of range") hx hb hlt hown (by decide +kernel) (by decide +kernel) (hts (.classLink RX2 66 "java/lang/IllegalArgumentException") (by decide +kernel)) (hts (.initialized "java/lang/IllegalArgumentException") (by decide +kernel)) hsa (vx_hat (B := .castable "java/lang/IllegalArgumentException" "java/lang/IllegalArgumentException" :: twD.map Cond.declares) (fun w hw => hts w (List.mem_cons_of_mem _ (List.mem_append_right _ hw))) (by decide +kernel) (hK.2.thrB (by decide +kernel))) (by decide +kernel) hZ.1 hZ.2 hS (by rw [hml]; exact hl.1) dX2_bears_72 dX2_bears_75 dX2_bears_76 dX2_bears_78 dX2_bears_81 (fun x hx => (hout x hx).elim) (Nat.le_of_ble_eq_true rfl) (Nat.le_of_ble_eq_true rfl) (Nat.le_of_ble_eq_true rfl) (Nat.le_of_ble_eq_true rfl) hlocks (fun t _ h1 h2 => ⟨(), trivial, ⟨⟨by rw [ev]; rfl, by rw [ev]; decide⟩, hP.kept (fun k q hk => h2 q.1 (hP k q hk).lt), hD⟩, ⟨h1, fun q hq _ => h2 q hq⟩⟩) t_nil (Nat.le_of_ble_eq_true rfl) (Nat.le_of_ble_eq_true rfl)
    · have ev : xBears n (nI i) w = 0 := by unfold xBears; exact (if_neg hxx).trans ((if_neg hw))
      obtain ⟨j, hj, rfl⟩ := inN (M := 3) hw (by decide)
      rcases (show j = 0 ∨ j = 1 ∨ j = 2 ∨ j = 3 by omega) with rfl | rfl | rfl | rfl
      · refine lv_tableIn (tgt := 52) (off := 31) hx hb dX2_bears_21 (by decide) (by decide) (by decide) (by decide) ?_
        refine lv_aload_n hx hb dX2_bears_52 rfl (lv_at hl 0 rfl) ?_
        refine caR (r := .int (lCust (L i) (pd i))) (va_runVN (As := []) (rest := []) ⟨hx, hb, hml, hown, hts⟩ (c_X0_customerInterest l G y la L i (pd i) (hpd i hi).1 (hpd i hi).2) ⟨va_cnB (host := "FundBook") 0 hts gX2_bears_X0_customerInterest_n149 rfl rfl rfl (hK.nw (by decide +kernel)) (hts (.initialized RX0) (by decide +kernel)) (by decide +kernel) ⟨Nat.le_of_ble_eq_true rfl, Nat.le_of_ble_eq_true rfl⟩, hts (.instanceMethod yX0_customerInterest) (by decide +kernel), hts (.selects RX0 yX0_customerInterest yX0_customerInterest) (by decide +kernel)⟩ ⟨rP_bl, va_recv hK.1 (bk_ln hP hi) (ci := 0) (q0 := 0) rfl rfl, fun U hU hW => ⟨rfl, by rw [hU]; exact (bk_ln hP hi), Kb.moved hW hK⟩⟩ rfl rfl hl.1 rfl (lv_room (Nat.le_of_ble_eq_true rfl)) dX2_bears_53 ⟨Nat.le_of_ble_eq_true rfl, Nat.le_of_ble_eq_true rfl⟩) ?_
        refine vx_ret ?_
        refine W.widen (k := 1) (n := 6) (Nat.le_of_ble_eq_true rfl) (Nat.le_of_ble_eq_true rfl) ?_
        exact W.iret (v := lCust (L i) (pd i)) hx hb hr (fun t ht hW => ⟨⟨(), congrArg (fun z => Outcome.returned (some (.int z))) (by rw [cnI (by omega)]; rfl), ev, by rw [ht]; exact hP, by exact hD⟩, hS.F ht⟩) hS.2.2 dX2_bears_56
      · refine lv_tableIn (tgt := 57) (off := 36) hx hb dX2_bears_21 (by decide) (by decide) (by decide) (by decide) ?_
        refine lv_aload_n hx hb dX2_bears_57 rfl (lv_at hl 0 rfl) ?_
        refine caR (r := .int (lFund (L i) (pd i))) (va_runVN (As := []) (rest := []) ⟨hx, hb, hml, hown, hts⟩ (c_X0_funding l G y la L i (pd i) (hpd i hi).1 (hpd i hi).2) ⟨va_cnB (host := "FundBook") 0 hts gX2_bears_X0_funding_n152 rfl rfl rfl (hK.nw (by decide +kernel)) (hts (.initialized RX0) (by decide +kernel)) (by decide +kernel) ⟨Nat.le_of_ble_eq_true rfl, Nat.le_of_ble_eq_true rfl⟩, hts (.instanceMethod yX0_funding) (by decide +kernel), hts (.selects RX0 yX0_funding yX0_funding) (by decide +kernel)⟩ ⟨rP_bl, va_recv hK.1 (bk_ln hP hi) (ci := 0) (q0 := 0) rfl rfl, fun U hU hW => ⟨rfl, by rw [hU]; exact (bk_ln hP hi), Kb.moved hW hK⟩⟩ rfl rfl hl.1 rfl (lv_room (Nat.le_of_ble_eq_true rfl)) dX2_bears_58 ⟨Nat.le_of_ble_eq_true rfl, Nat.le_of_ble_eq_true rfl⟩) ?_
        refine vx_ret ?_
        refine W.widen (k := 1) (n := 6) (Nat.le_of_ble_eq_true rfl) (Nat.le_of_ble_eq_true rfl) ?_
        exact W.iret (v := lFund (L i) (pd i)) hx hb hr (fun t ht hW => ⟨⟨(), congrArg (fun z => Outcome.returned (some (.int z))) (by rw [cnI (by omega)]; rfl), ev, by rw [ht]; exact hP, by exact hD⟩, hS.F ht⟩) hS.2.2 dX2_bears_61
      · refine lv_tableIn (tgt := 62) (off := 41) hx hb dX2_bears_21 (by decide) (by decide) (by decide) (by decide) ?_
        refine lv_aload_n hx hb dX2_bears_62 rfl (lv_at hl 0 rfl) ?_
        refine caR (r := .int (lOpt (L i) (pd i))) (va_runVN (As := []) (rest := []) ⟨hx, hb, hml, hown, hts⟩ (c_X0_optionCharge l G y la L i (pd i) (hpd i hi).1 (hpd i hi).2) ⟨va_cnB (host := "FundBook") 0 hts gX2_bears_X0_optionCharge_n155 rfl rfl rfl (hK.nw (by decide +kernel)) (hts (.initialized RX0) (by decide +kernel)) (by decide +kernel) ⟨Nat.le_of_ble_eq_true rfl, Nat.le_of_ble_eq_true rfl⟩, hts (.instanceMethod yX0_optionCharge) (by decide +kernel), hts (.selects RX0 yX0_optionCharge yX0_optionCharge) (by decide +kernel)⟩ ⟨rP_bl, va_recv hK.1 (bk_ln hP hi) (ci := 0) (q0 := 0) rfl rfl, fun U hU hW => ⟨rfl, by rw [hU]; exact (bk_ln hP hi), Kb.moved hW hK⟩⟩ rfl rfl hl.1 rfl (lv_room (Nat.le_of_ble_eq_true rfl)) dX2_bears_63 ⟨Nat.le_of_ble_eq_true rfl, Nat.le_of_ble_eq_true rfl⟩) ?_
        refine vx_ret ?_
        refine W.widen (k := 1) (n := 6) (Nat.le_of_ble_eq_true rfl) (Nat.le_of_ble_eq_true rfl) ?_
        exact W.iret (v := lOpt (L i) (pd i)) hx hb hr (fun t ht hW => ⟨⟨(), congrArg (fun z => Outcome.returned (some (.int z))) (by rw [cnI (by omega)]; rfl), ev, by rw [ht]; exact hP, by exact hD⟩, hS.F ht⟩) hS.2.2 dX2_bears_66
      · refine lv_tableIn (tgt := 67) (off := 46) hx hb dX2_bears_21 (by decide) (by decide) (by decide) (by decide) ?_
        refine lv_aload_n hx hb dX2_bears_67 rfl (lv_at hl 0 rfl) ?_
        refine caR (r := .int (lOwn (L i) (pd i))) (va_runVN (As := []) (rest := []) ⟨hx, hb, hml, hown, hts⟩ (c_X0_ownMargin l G y la L i (pd i) (hpd i hi).1 (hpd i hi).2) ⟨va_cnB (host := "FundBook") 0 hts gX2_bears_X0_ownMargin_n158 rfl rfl rfl (hK.nw (by decide +kernel)) (hts (.initialized RX0) (by decide +kernel)) (by decide +kernel) ⟨Nat.le_of_ble_eq_true rfl, Nat.le_of_ble_eq_true rfl⟩, hts (.instanceMethod yX0_ownMargin) (by decide +kernel), hts (.selects RX0 yX0_ownMargin yX0_ownMargin) (by decide +kernel)⟩ ⟨rP_bl, va_recv hK.1 (bk_ln hP hi) (ci := 0) (q0 := 0) rfl rfl, fun U hU hW => ⟨rfl, by rw [hU]; exact (bk_ln hP hi), Kb.moved hW hK⟩⟩ rfl rfl hl.1 rfl (lv_room (Nat.le_of_ble_eq_true rfl)) dX2_bears_68 ⟨Nat.le_of_ble_eq_true rfl, Nat.le_of_ble_eq_true rfl⟩) ?_
        refine vx_ret ?_
        refine W.widen (k := 1) (n := 6) (Nat.le_of_ble_eq_true rfl) (Nat.le_of_ble_eq_true rfl) ?_
        exact W.iret (v := lOwn (L i) (pd i)) hx hb hr (fun t ht hW => ⟨⟨(), congrArg (fun z => Outcome.returned (some (.int z))) (by rw [cnI (by omega)]; rfl), ev, by rw [ht]; exact hP, by exact hD⟩, hS.F ht⟩) hS.2.2 dX2_bears_71
set_option maxHeartbeats 4000000 in
set_option maxRecDepth 100000 in
theorem c_X2_due (l : Launch) (hlt : l.stackTraces = false) (G : va_G) (y : Nat → ClassId) (a : Nat → Nat) (b : MS) (n : Nat) (la : Nat → Nat → Nat) (L : LNS) (sz : Nat) (pd : Nat → Nat) (hpd : ∀ k, k < n → L k 0 7 = nI (pd k) ∧ pd k ≤ 6) (x : Int32) : vx_Met l yX2_due wsX2_due ({ frames := 6, cells := 1, slots := 6, locals := 82 }) (xP G y [.ref (a 13), .int x] (bkW y a b n la L) sz) (mQ G (fun _ : Unit => some (.int (S32 (bSm n (bDu L pd (cn x))) 24))) (fun _ => (xDue x) = 0) (fun _ => bkW y a b n la L) (va_A (bkW y a b n la L) sz)) (xX G (fun E => E = exN ((xDue x)) ∧ ¬ (xDue x) = 0) (bkW y a b n la L) (va_A (bkW y a b n la L) sz)) 1 6 (va_A (bkW y a b n la L) sz) := by
  refine vx_ofW (cc := cX2_due) (maxL := 7) (ret := (some .int)) (by decide) rfl ?_
  intro p e s m args below meth c s₁ B hml hout hv
  obtain ⟨rfl, hsz, hP, hK, hD0, hZ⟩ := hv
  have hx := B.exec
  have hb := B.bytes
  have hr := B.returns
  have hts := atoms_spec (ws := wsX2_due) B.pre
  have hown : s.vm.findClass RX2 = some m.cls := findClass_of_methodNamed B.named
  have hlocks := B.notSynchronized
  subst hsz
  have hD := hD0.self (sz := s.heap.size)
  generalize hAe : va_A (bkW y a b n la L) s.heap.size = A at hD hZ ⊢
  have hA : ∀ q : Nat, s.heap.size ≤ q → A q := fun q h => by rw [← hAe]; exact Or.inr h
  have hS : va_S A s.heap s.heap [] := va_S.rf
  have hP : va_P G vwCl (bkW y a b n la L) s.heap := hP
  have hl := lv_entry ([.ref (a 13), .int x]) (n := 7) (Nat.le_of_ble_eq_true rfl)
  rw [lg_entry_eq]
  generalize (lg_sl ([.ref (a 13), .int x]) ++ List.replicate (7 - (lg_sl ([.ref (a 13), .int x])).length) Slot.unset).toArray = ls at hl ⊢
  have hin2 : ∀ w ∈ wsX20, w ∈ wsX2_due := by decide +kernel
  have hl : lv_has ls 7 [(0, .ref (a 13)), (1, .int x)] := hl
  refine lv_iload_n hx hb dX2_due_0 rfl (lv_at hl 1 rfl) ?_
  refine lv_if_lt (tgt := 10) hx hb dX2_due_1 (by decide) (fun c_1 => ?_) (fun c_1 => ?_)
  · have ev : (xDue x) = 2 := by unfold xDue; exact (if_pos c_1)
    obtain ⟨sa, hsa⟩ := hK.2.2.2.1 (163, "ahead out of range") (by decide +kernel)
    exact vx_throwS (names := ["java/lang/RuntimeException", "java/lang/Exception"]) (cls := "java/lang/IllegalArgumentException") (text := "ahead out of range") hx hb hlt hown (by decide +kernel) (by decide +kernel) (hts (.classLink RX2 66 "java/lang/IllegalArgumentException") (by decide +kernel)) (hts (.initialized "java/lang/IllegalArgumentException") (by decide +kernel)) hsa (vx_hat (B := .castable "java/lang/IllegalArgumentException" "java/lang/IllegalArgumentException" :: twD.map Cond.declares) (fun w hw => hts w (List.mem_cons_of_mem _ (List.mem_append_right _ hw))) (by decide +kernel) (hK.2.thrB (by decide +kernel))) (by decide +kernel) hZ.1 hZ.2 hS (by rw [hml]; exact hl.1) dX2_due_10 dX2_due_13 dX2_due_14 dX2_due_16 dX2_due_19 (fun x hx => (hout x hx).elim) (Nat.le_of_ble_eq_true rfl) (Nat.le_of_ble_eq_true rfl) (Nat.le_of_ble_eq_true rfl) (Nat.le_of_ble_eq_true rfl) hlocks (fun t _ h1 h2 => ⟨(), trivial, ⟨⟨by rw [ev]; rfl, by rw [ev]; decide⟩, hP.kept (fun k q hk => h2 q.1 (hP k q hk).lt), hD⟩, ⟨h1, fun q hq _ => h2 q hq⟩⟩) t_nil (Nat.le_of_ble_eq_true rfl) (Nat.le_of_ble_eq_true rfl)
  · refine lv_iload_n hx hb dX2_due_4 rfl (lv_at hl 1 rfl) ?_
    refine lv_bipush (v := 6) hx hb dX2_due_5 (by decide) ?_
    refine lv_icmp_lt (tgt := 20) hx hb dX2_due_7 (by decide) (fun c_7 => ?_) (fun c_7 => ?_)
    · have ev : xDue x = 0 := by unfold xDue; exact (if_neg c_1).trans ((if_neg (Int32.not_le.mpr c_7)))
      obtain ⟨i, hi, rfl⟩ := inR (M := 6) c_1 (Int32.not_le.mpr c_7) (by decide)
      refine lv_iconst (v := 0) hx hb dX2_due_20 (by decide) ?_
      refine lv_istore_n (lv' := [(2, .int 0), (0, .ref (a 13)), (1, .int (nI i))]) hx hb dX2_due_21 rfl hl (by decide) rfl (fun ls hl => ?_)
      refine lv_aload_n hx hb dX2_due_22 rfl (lv_at hl 1 rfl) ?_
      refine bkG (b := b) (val := .ref (a 5)) hx hb hts hin2 hown hK hP 5 (by decide) (hts (.fieldLink RX2 28 "FundBook" "loanRows" "[LFundBook$Loan;") (by decide +kernel)) rfl dX2_due_23 ?_
      refine lv_astore_n (lv' := [(3, .ref (a 5)), (2, .int 0), (0, .ref (a 13)), (1, .int (nI i))]) hx hb dX2_due_26 rfl hl (by decide) rfl (fun ls hl => ?_)
      refine lv_aload_n hx hb dX2_due_27 rfl (lv_at hl 0 rfl) ?_
      refine va_alen (v := 24) hx hb hK.1 hP 2 2 bg_5 rfl rfl dX2_due_28 ?_
      refine lv_istore (lv' := [(4, .int 24), (3, .ref (a 5)), (2, .int 0), (0, .ref (a 13)), (1, .int (nI i))]) hx hb dX2_due_29 hl (by decide) rfl (fun ls hl => ?_)
      refine lv_iconst (v := 0) hx hb dX2_due_31 (by decide) ?_
      refine lv_istore (lv' := [(5, .int 0), (4, .int 24), (3, .ref (a 5)), (2, .int 0), (0, .ref (a 13)), (1, .int (nI i))]) hx hb dX2_due_32 hl (by decide) rfl (fun ls hl => ?_)
      refine loopW (LV := fun k => [(0, .ref (a 13)), (1, .int (nI i)), (3, .ref (a 5)), (4, .int 24), (2, .int (S32 (bSm n (bDu L pd i)) k)), (5, .int (nI k))]) 24 (lv_sub hl [4, 5, 2, 1, 3, 0] rfl) (fun k ls hk_k hl ih_k => ?_) (fun ls hl => ?_)
      · have hl : lv_has ls 7 [(0, .ref (a 13)), (1, .int (nI i)), (3, .ref (a 5)), (4, .int 24), (2, .int (S32 (bSm n (bDu L pd i)) k)), (5, .int (nI k))] := hl
        refine lv_iload hx hb dX2_due_34 (lv_at hl 5 rfl) ?_
        refine lv_iload hx hb dX2_due_36 (lv_at hl 3 rfl) ?_
        refine lv_icmp_ge (tgt := 67) hx hb dX2_due_38 (by decide) (fun c_38 => absurd c_38 (nI_ge hk_k (by decide))) (fun c_38 => ?_)
        refine lv_aload_n hx hb dX2_due_41 rfl (lv_at hl 2 rfl) ?_
        refine lv_iload hx hb dX2_due_42 (lv_at hl 5 rfl) ?_
        refine ldQ (f := lrF n la) hx hb hK hP 2 bg_5 k rfl (by omega) (by decide) dX2_due_44 ?_
        rcases Nat.lt_or_ge k n with hkn | hkn
        · refine lv_optS (if_pos hkn) ?_
          refine lv_astore (lv' := [(6, .ref (la k 0)), (0, .ref (a 13)), (1, .int (nI i)), (3, .ref (a 5)), (4, .int 24), (2, .int (S32 (bSm n (bDu L pd i)) k)), (5, .int (nI k))]) hx hb dX2_due_45 hl (by decide) rfl (fun ls hl => ?_)
          refine lv_aload hx hb dX2_due_47 (lv_at hl 0 rfl) ?_
          refine lv_ifnull hx hb dX2_due_49 ?_
          refine lv_iload_n hx hb dX2_due_52 rfl (lv_at hl 5 rfl) ?_
          refine lv_aload hx hb dX2_due_53 (lv_at hl 0 rfl) ?_
          refine lv_iload_n hx hb dX2_due_55 rfl (lv_at hl 2 rfl) ?_
          refine caR (r := .int (lAh (L k) (pd k) i)) (va_runVN (As := [.int (nI i)]) (rest := [.int (S32 (bSm n (bDu L pd i)) k)]) ⟨hx, hb, hml, hown, hts⟩ (c_X0_partAhead l G y la L k (pd k) (hpd k hkn).1 (hpd k hkn).2 i (by omega)) ⟨va_cnB (host := "FundBook") 1 hts gX2_due_X0_partAhead_n165 rfl rfl rfl (hK.nw (by decide +kernel)) (hts (.initialized RX0) (by decide +kernel)) (by decide +kernel) ⟨Nat.le_of_ble_eq_true rfl, Nat.le_of_ble_eq_true rfl⟩, hts (.instanceMethod yX0_partAhead) (by decide +kernel), hts (.selects RX0 yX0_partAhead yX0_partAhead) (by decide +kernel)⟩ ⟨rP_bl, va_recv hK.1 (bk_ln hP hkn) (ci := 0) (q0 := 0) rfl rfl, fun U hU hW => ⟨rfl, by rw [hU]; exact (bk_ln hP hkn), Kb.moved hW hK⟩⟩ rfl rfl hl.1 rfl (lv_room (Nat.le_of_ble_eq_true rfl)) dX2_due_56 ⟨Nat.le_of_ble_eq_true rfl, Nat.le_of_ble_eq_true rfl⟩) ?_
          refine lv_iadd hx hb dX2_due_59 ?_
          refine lv_topE (z := S32 (bSm n (bDu L pd i)) (k + 1)) (bSm_s (F := bDu L pd i) hkn) ?_
          refine lv_istore_n (lv' := [(2, .int (S32 (bSm n (bDu L pd i)) (k + 1))), (6, .ref (la k 0)), (0, .ref (a 13)), (1, .int (nI i)), (3, .ref (a 5)), (4, .int 24), (5, .int (nI k))]) hx hb dX2_due_60 rfl hl (by decide) rfl (fun ls hl => ?_)
          refine lv_iinc (v := (nI (k + 1))) (lv' := [(5, .int (nI (k + 1))), (2, .int (S32 (bSm n (bDu L pd i)) (k + 1))), (6, .ref (la k 0)), (0, .ref (a 13)), (1, .int (nI i)), (3, .ref (a 5)), (4, .int 24)]) hx hb dX2_due_61 hl (k := 6) rfl iinc1 (by decide) rfl (fun ls hl => ?_)
          refine lv_goto (tgt := 34) hx hb dX2_due_64 (by decide) ?_
          exact ih_k ls (lv_sub hl [3, 4, 5, 6, 1, 0] rfl)
        · refine lv_optN (if_neg (Nat.not_lt.mpr hkn)) ?_
          refine lv_astoreN (lv' := [(6, .null), (0, .ref (a 13)), (1, .int (nI i)), (3, .ref (a 5)), (4, .int 24), (2, .int (S32 (bSm n (bDu L pd i)) k)), (5, .int (nI k))]) hx hb dX2_due_45 hl (by decide) rfl (fun ls hl => ?_)
          refine lv_aloadN hx hb dX2_due_47 (lv_at hl 0 rfl) ?_
          refine lv_ifnullN (tgt := 61) hx hb dX2_due_49 (by decide) ?_
          refine lv_iinc (v := (nI (k + 1))) (lv' := [(5, .int (nI (k + 1))), (6, .null), (0, .ref (a 13)), (1, .int (nI i)), (3, .ref (a 5)), (4, .int 24), (2, .int (S32 (bSm n (bDu L pd i)) k))]) hx hb dX2_due_61 hl (k := 6) rfl iinc1 (by decide) rfl (fun ls hl => ?_)
          refine lv_goto (tgt := 34) hx hb dX2_due_64 (by decide) ?_
          exact ih_k ls (by show lv_has ls 7 _; rw [bSm_k hkn]; exact lv_sub hl [2, 3, 4, 5, 6, 0] rfl)
      · have hl : lv_has ls 7 [(0, .ref (a 13)), (1, .int (nI i)), (3, .ref (a 5)), (4, .int 24), (2, .int (S32 (bSm n (bDu L pd i)) 24)), (5, .int (nI 24))] := hl
        refine lv_iload hx hb dX2_due_34 (lv_at hl 5 rfl) ?_
        refine lv_iload hx hb dX2_due_36 (lv_at hl 3 rfl) ?_
        refine lv_icmp_ge (tgt := 67) hx hb dX2_due_38 (by decide) (fun c_38 => ?_) (fun c_38 => absurd (nI_le (Nat.le_refl 24) (by decide)) c_38)
        refine lv_iload_n hx hb dX2_due_67 rfl (lv_at hl 4 rfl) ?_
        refine vx_ret ?_
        refine W.widen (k := 1) (n := 6) (Nat.le_of_ble_eq_true rfl) (Nat.le_of_ble_eq_true rfl) ?_
        exact W.iret (v := S32 (bSm n (bDu L pd i)) 24) hx hb hr (fun t ht hW => ⟨⟨(), congrArg (fun z => Outcome.returned (some (.int z))) (by rw [cnI (by omega)]), ev, by rw [ht]; exact hP, by exact hD⟩, hS.F ht⟩) hS.2.2 dX2_due_68
    · have ev : (xDue x) = 2 := by unfold xDue; exact (if_neg c_1).trans ((if_pos (Int32.not_lt.mp c_7)))
      obtain ⟨sa, hsa⟩ := hK.2.2.2.1 (163, "ahead out of range") (by decide +kernel)
      exact vx_throwS (names := ["java/lang/RuntimeException", "java/lang/Exception"]) (cls := "java/lang/IllegalArgumentException") (text := "ahead out of range") hx hb hlt hown (by decide +kernel) (by decide +kernel) (hts (.classLink RX2 66 "java/lang/IllegalArgumentException") (by decide +kernel)) (hts (.initialized "java/lang/IllegalArgumentException") (by decide +kernel)) hsa (vx_hat (B := .castable "java/lang/IllegalArgumentException" "java/lang/IllegalArgumentException" :: twD.map Cond.declares) (fun w hw => hts w (List.mem_cons_of_mem _ (List.mem_append_right _ hw))) (by decide +kernel) (hK.2.thrB (by decide +kernel))) (by decide +kernel) hZ.1 hZ.2 hS (by rw [hml]; exact hl.1) dX2_due_10 dX2_due_13 dX2_due_14 dX2_due_16 dX2_due_19 (fun x hx => (hout x hx).elim) (Nat.le_of_ble_eq_true rfl) (Nat.le_of_ble_eq_true rfl) (Nat.le_of_ble_eq_true rfl) (Nat.le_of_ble_eq_true rfl) hlocks (fun t _ h1 h2 => ⟨(), trivial, ⟨⟨by rw [ev]; rfl, by rw [ev]; decide⟩, hP.kept (fun k q hk => h2 q.1 (hP k q hk).lt), hD⟩, ⟨h1, fun q hq _ => h2 q hq⟩⟩) t_nil (Nat.le_of_ble_eq_true rfl) (Nat.le_of_ble_eq_true rfl)
set_option maxHeartbeats 4000000 in
set_option maxRecDepth 100000 in
theorem c_X2_balance (l : Launch) (hlt : l.stackTraces = false) (G : va_G) (y : Nat → ClassId) (a : Nat → Nat) (b : MS) (n : Nat) (la : Nat → Nat → Nat) (L : LNS) (sz : Nat) (x : Int32) : vx_Met l yX2_balance wsX2_balance ({ frames := 6, cells := 1, slots := 6, locals := 82 }) (xP G y [.ref (a 13), .int x] (bkW y a b n la L) sz) (mQ G (fun _ : Unit => some (.int (b 7 (cn x)))) (fun _ => (x3 x) = 0) (fun _ => bkW y a b n la L) (va_A (bkW y a b n la L) sz)) (xX G (fun E => E = exN ((x3 x)) ∧ ¬ (x3 x) = 0) (bkW y a b n la L) (va_A (bkW y a b n la L) sz)) 1 6 (va_A (bkW y a b n la L) sz) := by
  refine vx_ofW (cc := cX2_balance) (maxL := 2) (ret := (some .int)) (by decide) rfl ?_
  intro p e s m args below meth c s₁ B hml hout hv
  obtain ⟨rfl, hsz, hP, hK, hD0, hZ⟩ := hv
  have hx := B.exec
  have hb := B.bytes
  have hr := B.returns
  have hts := atoms_spec (ws := wsX2_balance) B.pre
  have hown : s.vm.findClass RX2 = some m.cls := findClass_of_methodNamed B.named
  have hlocks := B.notSynchronized
  subst hsz
  have hD := hD0.self (sz := s.heap.size)
  generalize hAe : va_A (bkW y a b n la L) s.heap.size = A at hD hZ ⊢
  have hA : ∀ q : Nat, s.heap.size ≤ q → A q := fun q h => by rw [← hAe]; exact Or.inr h
  have hS : va_S A s.heap s.heap [] := va_S.rf
  have hP : va_P G vwCl (bkW y a b n la L) s.heap := hP
  have hl := lv_entry ([.ref (a 13), .int x]) (n := 2) (Nat.le_of_ble_eq_true rfl)
  rw [lg_entry_eq]
  generalize (lg_sl ([.ref (a 13), .int x]) ++ List.replicate (2 - (lg_sl ([.ref (a 13), .int x])).length) Slot.unset).toArray = ls at hl ⊢
  have hin2 : ∀ w ∈ wsX20, w ∈ wsX2_balance := by decide +kernel
  have hl : lv_has ls 2 [(0, .ref (a 13)), (1, .int x)] := hl
  refine lv_iload_n hx hb dX2_balance_0 rfl (lv_at hl 1 rfl) ?_
  refine lv_if_lt (tgt := 9) hx hb dX2_balance_1 (by decide) (fun c_1 => ?_) (fun c_1 => ?_)
  · have ev : (x3 x) = 1 := by unfold x3; exact (if_pos c_1)
    obtain ⟨sa, hsa⟩ := hK.2.2.2.1 (120, "no such branch") (by decide +kernel)
    exact vx_throwS (names := ["java/lang/RuntimeException", "java/lang/Exception"]) (cls := "java/lang/IndexOutOfBoundsException") (text := "no such branch") hx hb hlt hown (by decide +kernel) (by decide +kernel) (hts (.classLink RX2 59 "java/lang/IndexOutOfBoundsException") (by decide +kernel)) (hts (.initialized "java/lang/IndexOutOfBoundsException") (by decide +kernel)) hsa (vx_hat (B := .castable "java/lang/IndexOutOfBoundsException" "java/lang/IndexOutOfBoundsException" :: twD.map Cond.declares) (fun w hw => hts w (List.mem_cons_of_mem _ (List.mem_append_right _ hw))) (by decide +kernel) (hK.2.thrB (by decide +kernel))) (by decide +kernel) hZ.1 hZ.2 hS (by rw [hml]; exact hl.1) dX2_balance_9 dX2_balance_12 dX2_balance_13 dX2_balance_15 dX2_balance_18 (fun x hx => (hout x hx).elim) (Nat.le_of_ble_eq_true rfl) (Nat.le_of_ble_eq_true rfl) (Nat.le_of_ble_eq_true rfl) (Nat.le_of_ble_eq_true rfl) hlocks (fun t _ h1 h2 => ⟨(), trivial, ⟨⟨by rw [ev]; rfl, by rw [ev]; decide⟩, hP.kept (fun k q hk => h2 q.1 (hP k q hk).lt), hD⟩, ⟨h1, fun q hq _ => h2 q hq⟩⟩) t_nil (Nat.le_of_ble_eq_true rfl) (Nat.le_of_ble_eq_true rfl)
  · refine lv_iload_n hx hb dX2_balance_4 rfl (lv_at hl 1 rfl) ?_
    refine lv_iconst (v := 3) hx hb dX2_balance_5 (by decide) ?_
    refine lv_icmp_lt (tgt := 19) hx hb dX2_balance_6 (by decide) (fun c_6 => ?_) (fun c_6 => ?_)
    · have ev : x3 x = 0 := by unfold x3; exact (if_neg c_1).trans ((if_neg (Int32.not_le.mpr c_6)))
      obtain ⟨i, hi, rfl⟩ := inR (M := 3) c_1 (Int32.not_le.mpr c_6) (by decide)
      refine lv_aload_n hx hb dX2_balance_19 rfl (lv_at hl 0 rfl) ?_
      refine bkG (b := b) (val := .ref (a 7)) hx hb hts hin2 hown hK hP 7 (by decide) (hts (.fieldLink RX2 35 "FundBook" "balances" "[I") (by decide +kernel)) rfl dX2_balance_20 ?_
      refine lv_iload_n hx hb dX2_balance_23 rfl (lv_at hl 1 rfl) ?_
      refine ldI (f := b 7) hx hb hK hP 3 bg_7 i rfl (by omega) (by decide) dX2_balance_24 ?_
      refine vx_ret ?_
      refine W.widen (k := 1) (n := 6) (Nat.le_of_ble_eq_true rfl) (Nat.le_of_ble_eq_true rfl) ?_
      exact W.iret (v := b 7 i) hx hb hr (fun t ht hW => ⟨⟨(), congrArg (fun z => Outcome.returned (some (.int z))) (by rw [cnI (by omega)]), ev, by rw [ht]; exact hP, by exact hD⟩, hS.F ht⟩) hS.2.2 dX2_balance_25
    · have ev : (x3 x) = 1 := by unfold x3; exact (if_neg c_1).trans ((if_pos (Int32.not_lt.mp c_6)))
      obtain ⟨sa, hsa⟩ := hK.2.2.2.1 (120, "no such branch") (by decide +kernel)
      exact vx_throwS (names := ["java/lang/RuntimeException", "java/lang/Exception"]) (cls := "java/lang/IndexOutOfBoundsException") (text := "no such branch") hx hb hlt hown (by decide +kernel) (by decide +kernel) (hts (.classLink RX2 59 "java/lang/IndexOutOfBoundsException") (by decide +kernel)) (hts (.initialized "java/lang/IndexOutOfBoundsException") (by decide +kernel)) hsa (vx_hat (B := .castable "java/lang/IndexOutOfBoundsException" "java/lang/IndexOutOfBoundsException" :: twD.map Cond.declares) (fun w hw => hts w (List.mem_cons_of_mem _ (List.mem_append_right _ hw))) (by decide +kernel) (hK.2.thrB (by decide +kernel))) (by decide +kernel) hZ.1 hZ.2 hS (by rw [hml]; exact hl.1) dX2_balance_9 dX2_balance_12 dX2_balance_13 dX2_balance_15 dX2_balance_18 (fun x hx => (hout x hx).elim) (Nat.le_of_ble_eq_true rfl) (Nat.le_of_ble_eq_true rfl) (Nat.le_of_ble_eq_true rfl) (Nat.le_of_ble_eq_true rfl) hlocks (fun t _ h1 h2 => ⟨(), trivial, ⟨⟨by rw [ev]; rfl, by rw [ev]; decide⟩, hP.kept (fun k q hk => h2 q.1 (hP k q hk).lt), hD⟩, ⟨h1, fun q hq _ => h2 q hq⟩⟩) t_nil (Nat.le_of_ble_eq_true rfl) (Nat.le_of_ble_eq_true rfl)
set_option maxHeartbeats 4000000 in
set_option maxRecDepth 100000 in
theorem c_X2_tranche (l : Launch) (hlt : l.stackTraces = false) (G : va_G) (y : Nat → ClassId) (a : Nat → Nat) (b : MS) (n : Nat) (la : Nat → Nat → Nat) (L : LNS) (sz : Nat) (x : Int32) : vx_Met l yX2_tranche wsX2_tranche ({ frames := 6, cells := 1, slots := 6, locals := 82 }) (xP G y [.ref (a 13), .int x] (bkW y a b n la L) sz) (mQ G (fun _ : Unit => some (.int (b 14 (cn x)))) (fun _ => (x6 x) = 0) (fun _ => bkW y a b n la L) (va_A (bkW y a b n la L) sz)) (xX G (fun E => E = exN ((x6 x)) ∧ ¬ (x6 x) = 0) (bkW y a b n la L) (va_A (bkW y a b n la L) sz)) 1 6 (va_A (bkW y a b n la L) sz) := by
  refine vx_ofW (cc := cX2_tranche) (maxL := 2) (ret := (some .int)) (by decide) rfl ?_
  intro p e s m args below meth c s₁ B hml hout hv
  obtain ⟨rfl, hsz, hP, hK, hD0, hZ⟩ := hv
  have hx := B.exec
  have hb := B.bytes
  have hr := B.returns
  have hts := atoms_spec (ws := wsX2_tranche) B.pre
  have hown : s.vm.findClass RX2 = some m.cls := findClass_of_methodNamed B.named
  have hlocks := B.notSynchronized
  subst hsz
  have hD := hD0.self (sz := s.heap.size)
  generalize hAe : va_A (bkW y a b n la L) s.heap.size = A at hD hZ ⊢
  have hA : ∀ q : Nat, s.heap.size ≤ q → A q := fun q h => by rw [← hAe]; exact Or.inr h
  have hS : va_S A s.heap s.heap [] := va_S.rf
  have hP : va_P G vwCl (bkW y a b n la L) s.heap := hP
  have hl := lv_entry ([.ref (a 13), .int x]) (n := 2) (Nat.le_of_ble_eq_true rfl)
  rw [lg_entry_eq]
  generalize (lg_sl ([.ref (a 13), .int x]) ++ List.replicate (2 - (lg_sl ([.ref (a 13), .int x])).length) Slot.unset).toArray = ls at hl ⊢
  have hin1 : ∀ w ∈ wsX10, w ∈ wsX2_tranche := by decide +kernel
  have hin2 : ∀ w ∈ wsX20, w ∈ wsX2_tranche := by decide +kernel
  have hl : lv_has ls 2 [(0, .ref (a 13)), (1, .int x)] := hl
  refine lv_iload_n hx hb dX2_tranche_0 rfl (lv_at hl 1 rfl) ?_
  refine lv_if_lt (tgt := 10) hx hb dX2_tranche_1 (by decide) (fun c_1 => ?_) (fun c_1 => ?_)
  · have ev : (x6 x) = 1 := by unfold x6; exact (if_pos c_1)
    obtain ⟨sa, hsa⟩ := hK.2.2.2.1 (169, "no such tranche") (by decide +kernel)
    exact vx_throwS (names := ["java/lang/RuntimeException", "java/lang/Exception"]) (cls := "java/lang/IndexOutOfBoundsException") (text := "no such tranche") hx hb hlt hown (by decide +kernel) (by decide +kernel) (hts (.classLink RX2 59 "java/lang/IndexOutOfBoundsException") (by decide +kernel)) (hts (.initialized "java/lang/IndexOutOfBoundsException") (by decide +kernel)) hsa (vx_hat (B := .castable "java/lang/IndexOutOfBoundsException" "java/lang/IndexOutOfBoundsException" :: twD.map Cond.declares) (fun w hw => hts w (List.mem_cons_of_mem _ (List.mem_append_right _ hw))) (by decide +kernel) (hK.2.thrB (by decide +kernel))) (by decide +kernel) hZ.1 hZ.2 hS (by rw [hml]; exact hl.1) dX2_tranche_10 dX2_tranche_13 dX2_tranche_14 dX2_tranche_16 dX2_tranche_19 (fun x hx => (hout x hx).elim) (Nat.le_of_ble_eq_true rfl) (Nat.le_of_ble_eq_true rfl) (Nat.le_of_ble_eq_true rfl) (Nat.le_of_ble_eq_true rfl) hlocks (fun t _ h1 h2 => ⟨(), trivial, ⟨⟨by rw [ev]; rfl, by rw [ev]; decide⟩, hP.kept (fun k q hk => h2 q.1 (hP k q hk).lt), hD⟩, ⟨h1, fun q hq _ => h2 q hq⟩⟩) t_nil (Nat.le_of_ble_eq_true rfl) (Nat.le_of_ble_eq_true rfl)
  · refine lv_iload_n hx hb dX2_tranche_4 rfl (lv_at hl 1 rfl) ?_
    refine lv_bipush (v := 6) hx hb dX2_tranche_5 (by decide) ?_
    refine lv_icmp_lt (tgt := 20) hx hb dX2_tranche_7 (by decide) (fun c_7 => ?_) (fun c_7 => ?_)
    · have ev : x6 x = 0 := by unfold x6; exact (if_neg c_1).trans ((if_neg (Int32.not_le.mpr c_7)))
      obtain ⟨i, hi, rfl⟩ := inR (M := 6) c_1 (Int32.not_le.mpr c_7) (by decide)
      refine lv_aload_n hx hb dX2_tranche_20 rfl (lv_at hl 0 rfl) ?_
      refine bkG (b := b) (val := .ref (a 8)) hx hb hts hin2 hown hK hP 8 (by decide) (hts (.fieldLink RX2 41 "FundBook" "replica" "LFundBook$Replica;") (by decide +kernel)) rfl dX2_tranche_21 ?_
      refine rpGN (val := .ref (a 14)) hx hb hts hin1 hown hK (bk_rp hP) 0 (by decide) (by decide +kernel) rfl dX2_tranche_24 ?_
      refine lv_iload_n hx hb dX2_tranche_27 rfl (lv_at hl 1 rfl) ?_
      refine ldI (f := b 14) hx hb hK hP 5 bg_14 i rfl (by omega) (by decide) dX2_tranche_28 ?_
      refine vx_ret ?_
      refine W.widen (k := 1) (n := 6) (Nat.le_of_ble_eq_true rfl) (Nat.le_of_ble_eq_true rfl) ?_
      exact W.iret (v := b 14 i) hx hb hr (fun t ht hW => ⟨⟨(), congrArg (fun z => Outcome.returned (some (.int z))) (by rw [cnI (by omega)]), ev, by rw [ht]; exact hP, by exact hD⟩, hS.F ht⟩) hS.2.2 dX2_tranche_29
    · have ev : (x6 x) = 1 := by unfold x6; exact (if_neg c_1).trans ((if_pos (Int32.not_lt.mp c_7)))
      obtain ⟨sa, hsa⟩ := hK.2.2.2.1 (169, "no such tranche") (by decide +kernel)
      exact vx_throwS (names := ["java/lang/RuntimeException", "java/lang/Exception"]) (cls := "java/lang/IndexOutOfBoundsException") (text := "no such tranche") hx hb hlt hown (by decide +kernel) (by decide +kernel) (hts (.classLink RX2 59 "java/lang/IndexOutOfBoundsException") (by decide +kernel)) (hts (.initialized "java/lang/IndexOutOfBoundsException") (by decide +kernel)) hsa (vx_hat (B := .castable "java/lang/IndexOutOfBoundsException" "java/lang/IndexOutOfBoundsException" :: twD.map Cond.declares) (fun w hw => hts w (List.mem_cons_of_mem _ (List.mem_append_right _ hw))) (by decide +kernel) (hK.2.thrB (by decide +kernel))) (by decide +kernel) hZ.1 hZ.2 hS (by rw [hml]; exact hl.1) dX2_tranche_10 dX2_tranche_13 dX2_tranche_14 dX2_tranche_16 dX2_tranche_19 (fun x hx => (hout x hx).elim) (Nat.le_of_ble_eq_true rfl) (Nat.le_of_ble_eq_true rfl) (Nat.le_of_ble_eq_true rfl) (Nat.le_of_ble_eq_true rfl) hlocks (fun t _ h1 h2 => ⟨(), trivial, ⟨⟨by rw [ev]; rfl, by rw [ev]; decide⟩, hP.kept (fun k q hk => h2 q.1 (hP k q hk).lt), hD⟩, ⟨h1, fun q hq _ => h2 q hq⟩⟩) t_nil (Nat.le_of_ble_eq_true rfl) (Nat.le_of_ble_eq_true rfl)
set_option maxHeartbeats 4000000 in
set_option maxRecDepth 100000 in
theorem c_X2_margin (l : Launch) (hlt : l.stackTraces = false) (G : va_G) (y : Nat → ClassId) (a : Nat → Nat) (b : MS) (n : Nat) (la : Nat → Nat → Nat) (L : LNS) (sz : Nat) (t : Nat) (ht : b 13 4 = nI t) (ht47 : t ≤ 47) (x mo : Int32) : vx_Met l yX2_margin wsX2_margin ({ frames := 6, cells := 1, slots := 6, locals := 82 }) (xP G y [.ref (a 13), .int x, .int mo] (bkW y a b n la L) sz) (mQ G (fun _ : Unit => some (.int (b (16 + cn x) (cn mo)))) (fun _ => (xMar t x mo) = 0) (fun _ => bkW y a b n la L) (va_A (bkW y a b n la L) sz)) (xX G (fun E => E = exN ((xMar t x mo)) ∧ ¬ (xMar t x mo) = 0) (bkW y a b n la L) (va_A (bkW y a b n la L) sz)) 1 6 (va_A (bkW y a b n la L) sz) := by
  refine vx_ofW (cc := cX2_margin) (maxL := 3) (ret := (some .int)) (by decide) rfl ?_
  intro p e s m args below meth c s₁ B hml hout hv
  obtain ⟨rfl, hsz, hP, hK, hD0, hZ⟩ := hv
  have hx := B.exec
  have hb := B.bytes
  have hr := B.returns
  have hts := atoms_spec (ws := wsX2_margin) B.pre
  have hown : s.vm.findClass RX2 = some m.cls := findClass_of_methodNamed B.named
  have hlocks := B.notSynchronized
  subst hsz
  have hD := hD0.self (sz := s.heap.size)
  generalize hAe : va_A (bkW y a b n la L) s.heap.size = A at hD hZ ⊢
  have hA : ∀ q : Nat, s.heap.size ≤ q → A q := fun q h => by rw [← hAe]; exact Or.inr h
  have hS : va_S A s.heap s.heap [] := va_S.rf
  have hP : va_P G vwCl (bkW y a b n la L) s.heap := hP
  have hl := lv_entry ([.ref (a 13), .int x, .int mo]) (n := 3) (Nat.le_of_ble_eq_true rfl)
  rw [lg_entry_eq]
  generalize (lg_sl ([.ref (a 13), .int x, .int mo]) ++ List.replicate (3 - (lg_sl ([.ref (a 13), .int x, .int mo])).length) Slot.unset).toArray = ls at hl ⊢
  have hin2 : ∀ w ∈ wsX20, w ∈ wsX2_margin := by decide +kernel
  have hl : lv_has ls 3 [(0, .ref (a 13)), (1, .int x), (2, .int mo)] := hl
  refine lv_iload_n hx hb dX2_margin_0 rfl (lv_at hl 1 rfl) ?_
  refine lv_if_lt (tgt := 17) hx hb dX2_margin_1 (by decide) (fun c_1 => ?_) (fun c_1 => ?_)
  · have ev : (xMar t x mo) = 1 := by unfold xMar; exact (if_pos c_1)
    obtain ⟨sa, hsa⟩ := hK.2.2.2.1 (181, "no such branch, or the month has not ended") (by decide +kernel)
    exact vx_throwS (names := ["java/lang/RuntimeException", "java/lang/Exception"]) (cls := "java/lang/IndexOutOfBoundsException") (text := "no such branch, or the month has not ended") hx hb hlt hown (by decide +kernel) (by decide +kernel) (hts (.classLink RX2 59 "java/lang/IndexOutOfBoundsException") (by decide +kernel)) (hts (.initialized "java/lang/IndexOutOfBoundsException") (by decide +kernel)) hsa (vx_hat (B := .castable "java/lang/IndexOutOfBoundsException" "java/lang/IndexOutOfBoundsException" :: twD.map Cond.declares) (fun w hw => hts w (List.mem_cons_of_mem _ (List.mem_append_right _ hw))) (by decide +kernel) (hK.2.thrB (by decide +kernel))) (by decide +kernel) hZ.1 hZ.2 hS (by rw [hml]; exact hl.1) dX2_margin_17 dX2_margin_20 dX2_margin_21 dX2_margin_23 dX2_margin_26 (fun x hx => (hout x hx).elim) (Nat.le_of_ble_eq_true rfl) (Nat.le_of_ble_eq_true rfl) (Nat.le_of_ble_eq_true rfl) (Nat.le_of_ble_eq_true rfl) hlocks (fun t _ h1 h2 => ⟨(), trivial, ⟨⟨by rw [ev]; rfl, by rw [ev]; decide⟩, hP.kept (fun k q hk => h2 q.1 (hP k q hk).lt), hD⟩, ⟨h1, fun q hq _ => h2 q hq⟩⟩) t_nil (Nat.le_of_ble_eq_true rfl) (Nat.le_of_ble_eq_true rfl)
  · refine lv_iload_n hx hb dX2_margin_4 rfl (lv_at hl 1 rfl) ?_
    refine lv_iconst (v := 3) hx hb dX2_margin_5 (by decide) ?_
    refine lv_icmp_ge (tgt := 17) hx hb dX2_margin_6 (by decide) (fun c_6 => ?_) (fun c_6 => ?_)
    · have ev : (xMar t x mo) = 1 := by unfold xMar; exact (if_neg c_1).trans ((if_pos c_6))
      obtain ⟨sa, hsa⟩ := hK.2.2.2.1 (181, "no such branch, or the month has not ended") (by decide +kernel)
      exact vx_throwS (names := ["java/lang/RuntimeException", "java/lang/Exception"]) (cls := "java/lang/IndexOutOfBoundsException") (text := "no such branch, or the month has not ended") hx hb hlt hown (by decide +kernel) (by decide +kernel) (hts (.classLink RX2 59 "java/lang/IndexOutOfBoundsException") (by decide +kernel)) (hts (.initialized "java/lang/IndexOutOfBoundsException") (by decide +kernel)) hsa (vx_hat (B := .castable "java/lang/IndexOutOfBoundsException" "java/lang/IndexOutOfBoundsException" :: twD.map Cond.declares) (fun w hw => hts w (List.mem_cons_of_mem _ (List.mem_append_right _ hw))) (by decide +kernel) (hK.2.thrB (by decide +kernel))) (by decide +kernel) hZ.1 hZ.2 hS (by rw [hml]; exact hl.1) dX2_margin_17 dX2_margin_20 dX2_margin_21 dX2_margin_23 dX2_margin_26 (fun x hx => (hout x hx).elim) (Nat.le_of_ble_eq_true rfl) (Nat.le_of_ble_eq_true rfl) (Nat.le_of_ble_eq_true rfl) (Nat.le_of_ble_eq_true rfl) hlocks (fun t _ h1 h2 => ⟨(), trivial, ⟨⟨by rw [ev]; rfl, by rw [ev]; decide⟩, hP.kept (fun k q hk => h2 q.1 (hP k q hk).lt), hD⟩, ⟨h1, fun q hq _ => h2 q hq⟩⟩) t_nil (Nat.le_of_ble_eq_true rfl) (Nat.le_of_ble_eq_true rfl)
    · refine lv_aload_n hx hb dX2_margin_9 rfl (lv_at hl 0 rfl) ?_
      refine lv_iload_n hx hb dX2_margin_10 rfl (lv_at hl 2 rfl) ?_
      refine caR (r := .int (bEn t mo)) (va_runV (As := [.int mo]) (rest := []) ⟨hx, hb, hml, hown, hts⟩ (c_X2_hasEnded l G y a b n la L t ht ht47 mo) (cwV 1 hts gX2_margin_X2_hasEnded rfl rfl rfl (by decide +kernel) ⟨Nat.le_of_ble_eq_true rfl, Nat.le_of_ble_eq_true rfl⟩) ⟨rP_bl, va_recv hK.1 hP (ci := 2) (q0 := 0) rfl rfl, fun U hU hW => ⟨rfl, by rw [hU]; exact hP, Kb.moved hW hK⟩⟩ rfl rfl hl.1 rfl (lv_room (Nat.le_of_ble_eq_true rfl)) dX2_margin_11 ⟨Nat.le_of_ble_eq_true rfl, Nat.le_of_ble_eq_true rfl⟩) ?_
      refine lv_if_ne (tgt := 27) hx hb dX2_margin_14 (by decide) (fun c_14 => ?_) (fun c_14 => ?_)
      · have ev : xMar t x mo = 0 := by unfold xMar; exact (if_neg c_1).trans ((if_neg c_6).trans ((if_neg c_14)))
        obtain ⟨i, hi, rfl⟩ := inR (M := 3) c_1 c_6 (by decide)
        obtain ⟨j, hj, rfl⟩ := bEn_T c_14 ht47
        refine lv_aload_n hx hb dX2_margin_27 rfl (lv_at hl 0 rfl) ?_
        refine bkG (b := b) (val := .ref (a 9)) hx hb hts hin2 hown hK hP 9 (by decide) (hts (.fieldLink RX2 47 "FundBook" "branchMargins" "[[I") (by decide +kernel)) rfl dX2_margin_28 ?_
        refine lv_iload_n hx hb dX2_margin_31 rfl (lv_at hl 1 rfl) ?_
        refine ldA (f := fun i => if i < 3 then some (a (16 + i)) else none) hx hb hK hP 7 bg_9 i rfl (by omega) (by decide) dX2_margin_32 ?_
        refine lv_optS (x := a (16 + i)) (if_pos (by omega)) ?_
        refine lv_iload_n hx hb dX2_margin_33 rfl (lv_at hl 2 rfl) ?_
        refine ldI (f := (b (16 + i))) hx hb hK hP (8 + i) (bg_M (by omega)) j rfl (by omega) (by decide) dX2_margin_34 ?_
        refine vx_ret ?_
        refine W.widen (k := 1) (n := 6) (Nat.le_of_ble_eq_true rfl) (Nat.le_of_ble_eq_true rfl) ?_
        exact W.iret (v := (b (16 + i)) j) hx hb hr (fun t ht hW => ⟨⟨(), congrArg (fun z => Outcome.returned (some (.int z))) (by rw [cnI (show i < 2 ^ 31 by omega), cnI (show j < 2 ^ 31 by omega)]), ev, by rw [ht]; exact hP, by exact hD⟩, hS.F ht⟩) hS.2.2 dX2_margin_35
      · have ev : (xMar t x mo) = 1 := by unfold xMar; exact (if_neg c_1).trans ((if_neg c_6).trans ((if_pos c_14)))
        obtain ⟨sa, hsa⟩ := hK.2.2.2.1 (181, "no such branch, or the month has not ended") (by decide +kernel)
        exact vx_throwS (names := ["java/lang/RuntimeException", "java/lang/Exception"]) (cls := "java/lang/IndexOutOfBoundsException") (text := "no such branch, or the month has not ended") hx hb hlt hown (by decide +kernel) (by decide +kernel) (hts (.classLink RX2 59 "java/lang/IndexOutOfBoundsException") (by decide +kernel)) (hts (.initialized "java/lang/IndexOutOfBoundsException") (by decide +kernel)) hsa (vx_hat (B := .castable "java/lang/IndexOutOfBoundsException" "java/lang/IndexOutOfBoundsException" :: twD.map Cond.declares) (fun w hw => hts w (List.mem_cons_of_mem _ (List.mem_append_right _ hw))) (by decide +kernel) (hK.2.thrB (by decide +kernel))) (by decide +kernel) hZ.1 hZ.2 hS (by rw [hml]; exact hl.1) dX2_margin_17 dX2_margin_20 dX2_margin_21 dX2_margin_23 dX2_margin_26 (fun x hx => (hout x hx).elim) (Nat.le_of_ble_eq_true rfl) (Nat.le_of_ble_eq_true rfl) (Nat.le_of_ble_eq_true rfl) (Nat.le_of_ble_eq_true rfl) hlocks (fun t _ h1 h2 => ⟨(), trivial, ⟨⟨by rw [ev]; rfl, by rw [ev]; decide⟩, hP.kept (fun k q hk => h2 q.1 (hP k q hk).lt), hD⟩, ⟨h1, fun q hq _ => h2 q hq⟩⟩) t_nil (Nat.le_of_ble_eq_true rfl) (Nat.le_of_ble_eq_true rfl)
set_option maxHeartbeats 4000000 in
set_option maxRecDepth 100000 in
theorem c_X2_byProduct (l : Launch) (hlt : l.stackTraces = false) (G : va_G) (y : Nat → ClassId) (a : Nat → Nat) (b : MS) (n : Nat) (la : Nat → Nat → Nat) (L : LNS) (sz : Nat) (t : Nat) (ht : b 13 4 = nI t) (ht47 : t ≤ 47) (x mo : Int32) : vx_Met l yX2_byProduct wsX2_byProduct ({ frames := 6, cells := 1, slots := 6, locals := 82 }) (xP G y [.ref (a 13), .int x, .int mo] (bkW y a b n la L) sz) (mQ G (fun _ : Unit => some (.int (b (19 + cn x) (cn mo)))) (fun _ => (xMar t x mo) = 0) (fun _ => bkW y a b n la L) (va_A (bkW y a b n la L) sz)) (xX G (fun E => E = exN ((xMar t x mo)) ∧ ¬ (xMar t x mo) = 0) (bkW y a b n la L) (va_A (bkW y a b n la L) sz)) 1 6 (va_A (bkW y a b n la L) sz) := by
  refine vx_ofW (cc := cX2_byProduct) (maxL := 3) (ret := (some .int)) (by decide) rfl ?_
  intro p e s m args below meth c s₁ B hml hout hv
  obtain ⟨rfl, hsz, hP, hK, hD0, hZ⟩ := hv
  have hx := B.exec
  have hb := B.bytes
  have hr := B.returns
  have hts := atoms_spec (ws := wsX2_byProduct) B.pre
  have hown : s.vm.findClass RX2 = some m.cls := findClass_of_methodNamed B.named
  have hlocks := B.notSynchronized
  subst hsz
  have hD := hD0.self (sz := s.heap.size)
  generalize hAe : va_A (bkW y a b n la L) s.heap.size = A at hD hZ ⊢
  have hA : ∀ q : Nat, s.heap.size ≤ q → A q := fun q h => by rw [← hAe]; exact Or.inr h
  have hS : va_S A s.heap s.heap [] := va_S.rf
  have hP : va_P G vwCl (bkW y a b n la L) s.heap := hP
  have hl := lv_entry ([.ref (a 13), .int x, .int mo]) (n := 3) (Nat.le_of_ble_eq_true rfl)
  rw [lg_entry_eq]
  generalize (lg_sl ([.ref (a 13), .int x, .int mo]) ++ List.replicate (3 - (lg_sl ([.ref (a 13), .int x, .int mo])).length) Slot.unset).toArray = ls at hl ⊢
  have hin2 : ∀ w ∈ wsX20, w ∈ wsX2_byProduct := by decide +kernel
  have hl : lv_has ls 3 [(0, .ref (a 13)), (1, .int x), (2, .int mo)] := hl
  refine lv_iload_n hx hb dX2_byProduct_0 rfl (lv_at hl 1 rfl) ?_
  refine lv_if_lt (tgt := 17) hx hb dX2_byProduct_1 (by decide) (fun c_1 => ?_) (fun c_1 => ?_)
  · have ev : (xMar t x mo) = 1 := by unfold xMar; exact (if_pos c_1)
    obtain ⟨sa, hsa⟩ := hK.2.2.2.1 (183, "no such product, or the month has not ended") (by decide +kernel)
    exact vx_throwS (names := ["java/lang/RuntimeException", "java/lang/Exception"]) (cls := "java/lang/IndexOutOfBoundsException") (text := "no such product, or the month has not ended") hx hb hlt hown (by decide +kernel) (by decide +kernel) (hts (.classLink RX2 59 "java/lang/IndexOutOfBoundsException") (by decide +kernel)) (hts (.initialized "java/lang/IndexOutOfBoundsException") (by decide +kernel)) hsa (vx_hat (B := .castable "java/lang/IndexOutOfBoundsException" "java/lang/IndexOutOfBoundsException" :: twD.map Cond.declares) (fun w hw => hts w (List.mem_cons_of_mem _ (List.mem_append_right _ hw))) (by decide +kernel) (hK.2.thrB (by decide +kernel))) (by decide +kernel) hZ.1 hZ.2 hS (by rw [hml]; exact hl.1) dX2_byProduct_17 dX2_byProduct_20 dX2_byProduct_21 dX2_byProduct_23 dX2_byProduct_26 (fun x hx => (hout x hx).elim) (Nat.le_of_ble_eq_true rfl) (Nat.le_of_ble_eq_true rfl) (Nat.le_of_ble_eq_true rfl) (Nat.le_of_ble_eq_true rfl) hlocks (fun t _ h1 h2 => ⟨(), trivial, ⟨⟨by rw [ev]; rfl, by rw [ev]; decide⟩, hP.kept (fun k q hk => h2 q.1 (hP k q hk).lt), hD⟩, ⟨h1, fun q hq _ => h2 q hq⟩⟩) t_nil (Nat.le_of_ble_eq_true rfl) (Nat.le_of_ble_eq_true rfl)
  · refine lv_iload_n hx hb dX2_byProduct_4 rfl (lv_at hl 1 rfl) ?_
    refine lv_iconst (v := 3) hx hb dX2_byProduct_5 (by decide) ?_
    refine lv_icmp_ge (tgt := 17) hx hb dX2_byProduct_6 (by decide) (fun c_6 => ?_) (fun c_6 => ?_)
    · have ev : (xMar t x mo) = 1 := by unfold xMar; exact (if_neg c_1).trans ((if_pos c_6))
      obtain ⟨sa, hsa⟩ := hK.2.2.2.1 (183, "no such product, or the month has not ended") (by decide +kernel)
      exact vx_throwS (names := ["java/lang/RuntimeException", "java/lang/Exception"]) (cls := "java/lang/IndexOutOfBoundsException") (text := "no such product, or the month has not ended") hx hb hlt hown (by decide +kernel) (by decide +kernel) (hts (.classLink RX2 59 "java/lang/IndexOutOfBoundsException") (by decide +kernel)) (hts (.initialized "java/lang/IndexOutOfBoundsException") (by decide +kernel)) hsa (vx_hat (B := .castable "java/lang/IndexOutOfBoundsException" "java/lang/IndexOutOfBoundsException" :: twD.map Cond.declares) (fun w hw => hts w (List.mem_cons_of_mem _ (List.mem_append_right _ hw))) (by decide +kernel) (hK.2.thrB (by decide +kernel))) (by decide +kernel) hZ.1 hZ.2 hS (by rw [hml]; exact hl.1) dX2_byProduct_17 dX2_byProduct_20 dX2_byProduct_21 dX2_byProduct_23 dX2_byProduct_26 (fun x hx => (hout x hx).elim) (Nat.le_of_ble_eq_true rfl) (Nat.le_of_ble_eq_true rfl) (Nat.le_of_ble_eq_true rfl) (Nat.le_of_ble_eq_true rfl) hlocks (fun t _ h1 h2 => ⟨(), trivial, ⟨⟨by rw [ev]; rfl, by rw [ev]; decide⟩, hP.kept (fun k q hk => h2 q.1 (hP k q hk).lt), hD⟩, ⟨h1, fun q hq _ => h2 q hq⟩⟩) t_nil (Nat.le_of_ble_eq_true rfl) (Nat.le_of_ble_eq_true rfl)
    · refine lv_aload_n hx hb dX2_byProduct_9 rfl (lv_at hl 0 rfl) ?_
      refine lv_iload_n hx hb dX2_byProduct_10 rfl (lv_at hl 2 rfl) ?_
      refine caR (r := .int (bEn t mo)) (va_runV (As := [.int mo]) (rest := []) ⟨hx, hb, hml, hown, hts⟩ (c_X2_hasEnded l G y a b n la L t ht ht47 mo) (cwV 1 hts gX2_byProduct_X2_hasEnded rfl rfl rfl (by decide +kernel) ⟨Nat.le_of_ble_eq_true rfl, Nat.le_of_ble_eq_true rfl⟩) ⟨rP_bl, va_recv hK.1 hP (ci := 2) (q0 := 0) rfl rfl, fun U hU hW => ⟨rfl, by rw [hU]; exact hP, Kb.moved hW hK⟩⟩ rfl rfl hl.1 rfl (lv_room (Nat.le_of_ble_eq_true rfl)) dX2_byProduct_11 ⟨Nat.le_of_ble_eq_true rfl, Nat.le_of_ble_eq_true rfl⟩) ?_
      refine lv_if_ne (tgt := 27) hx hb dX2_byProduct_14 (by decide) (fun c_14 => ?_) (fun c_14 => ?_)
      · have ev : xMar t x mo = 0 := by unfold xMar; exact (if_neg c_1).trans ((if_neg c_6).trans ((if_neg c_14)))
        obtain ⟨i, hi, rfl⟩ := inR (M := 3) c_1 c_6 (by decide)
        obtain ⟨j, hj, rfl⟩ := bEn_T c_14 ht47
        refine lv_aload_n hx hb dX2_byProduct_27 rfl (lv_at hl 0 rfl) ?_
        refine bkG (b := b) (val := .ref (a 10)) hx hb hts hin2 hown hK hP 10 (by decide) (hts (.fieldLink RX2 50 "FundBook" "productMargins" "[[I") (by decide +kernel)) rfl dX2_byProduct_28 ?_
        refine lv_iload_n hx hb dX2_byProduct_31 rfl (lv_at hl 1 rfl) ?_
        refine ldA (f := fun i => if i < 3 then some (a (19 + i)) else none) hx hb hK hP 11 bg_10 i rfl (by omega) (by decide) dX2_byProduct_32 ?_
        refine lv_optS (x := a (19 + i)) (if_pos (by omega)) ?_
        refine lv_iload_n hx hb dX2_byProduct_33 rfl (lv_at hl 2 rfl) ?_
        refine ldI (f := (b (19 + i))) hx hb hK hP (12 + i) (bg_P (by omega)) j rfl (by omega) (by decide) dX2_byProduct_34 ?_
        refine vx_ret ?_
        refine W.widen (k := 1) (n := 6) (Nat.le_of_ble_eq_true rfl) (Nat.le_of_ble_eq_true rfl) ?_
        exact W.iret (v := (b (19 + i)) j) hx hb hr (fun t ht hW => ⟨⟨(), congrArg (fun z => Outcome.returned (some (.int z))) (by rw [cnI (show i < 2 ^ 31 by omega), cnI (show j < 2 ^ 31 by omega)]), ev, by rw [ht]; exact hP, by exact hD⟩, hS.F ht⟩) hS.2.2 dX2_byProduct_35
      · have ev : (xMar t x mo) = 1 := by unfold xMar; exact (if_neg c_1).trans ((if_neg c_6).trans ((if_pos c_14)))
        obtain ⟨sa, hsa⟩ := hK.2.2.2.1 (183, "no such product, or the month has not ended") (by decide +kernel)
        exact vx_throwS (names := ["java/lang/RuntimeException", "java/lang/Exception"]) (cls := "java/lang/IndexOutOfBoundsException") (text := "no such product, or the month has not ended") hx hb hlt hown (by decide +kernel) (by decide +kernel) (hts (.classLink RX2 59 "java/lang/IndexOutOfBoundsException") (by decide +kernel)) (hts (.initialized "java/lang/IndexOutOfBoundsException") (by decide +kernel)) hsa (vx_hat (B := .castable "java/lang/IndexOutOfBoundsException" "java/lang/IndexOutOfBoundsException" :: twD.map Cond.declares) (fun w hw => hts w (List.mem_cons_of_mem _ (List.mem_append_right _ hw))) (by decide +kernel) (hK.2.thrB (by decide +kernel))) (by decide +kernel) hZ.1 hZ.2 hS (by rw [hml]; exact hl.1) dX2_byProduct_17 dX2_byProduct_20 dX2_byProduct_21 dX2_byProduct_23 dX2_byProduct_26 (fun x hx => (hout x hx).elim) (Nat.le_of_ble_eq_true rfl) (Nat.le_of_ble_eq_true rfl) (Nat.le_of_ble_eq_true rfl) (Nat.le_of_ble_eq_true rfl) hlocks (fun t _ h1 h2 => ⟨(), trivial, ⟨⟨by rw [ev]; rfl, by rw [ev]; decide⟩, hP.kept (fun k q hk => h2 q.1 (hP k q hk).lt), hD⟩, ⟨h1, fun q hq _ => h2 q hq⟩⟩) t_nil (Nat.le_of_ble_eq_true rfl) (Nat.le_of_ble_eq_true rfl)
set_option maxHeartbeats 4000000 in
set_option maxRecDepth 100000 in
theorem c_X2_treasury (l : Launch) (hlt : l.stackTraces = false) (G : va_G) (y : Nat → ClassId) (a : Nat → Nat) (b : MS) (n : Nat) (la : Nat → Nat → Nat) (L : LNS) (sz : Nat) (t : Nat) (ht : b 13 4 = nI t) (ht47 : t ≤ 47) (mo : Int32) : vx_Met l yX2_treasury wsX2_treasury ({ frames := 6, cells := 1, slots := 6, locals := 82 }) (xP G y [.ref (a 13), .int mo] (bkW y a b n la L) sz) (mQ G (fun _ : Unit => some (.int (b 11 (cn mo)))) (fun _ => (xMo t mo) = 0) (fun _ => bkW y a b n la L) (va_A (bkW y a b n la L) sz)) (xX G (fun E => E = exN ((xMo t mo)) ∧ ¬ (xMo t mo) = 0) (bkW y a b n la L) (va_A (bkW y a b n la L) sz)) 1 6 (va_A (bkW y a b n la L) sz) := by
  refine vx_ofW (cc := cX2_treasury) (maxL := 2) (ret := (some .int)) (by decide) rfl ?_
  intro p e s m args below meth c s₁ B hml hout hv
  obtain ⟨rfl, hsz, hP, hK, hD0, hZ⟩ := hv
  have hx := B.exec
  have hb := B.bytes
  have hr := B.returns
  have hts := atoms_spec (ws := wsX2_treasury) B.pre
  have hown : s.vm.findClass RX2 = some m.cls := findClass_of_methodNamed B.named
  have hlocks := B.notSynchronized
  subst hsz
  have hD := hD0.self (sz := s.heap.size)
  generalize hAe : va_A (bkW y a b n la L) s.heap.size = A at hD hZ ⊢
  have hA : ∀ q : Nat, s.heap.size ≤ q → A q := fun q h => by rw [← hAe]; exact Or.inr h
  have hS : va_S A s.heap s.heap [] := va_S.rf
  have hP : va_P G vwCl (bkW y a b n la L) s.heap := hP
  have hl := lv_entry ([.ref (a 13), .int mo]) (n := 2) (Nat.le_of_ble_eq_true rfl)
  rw [lg_entry_eq]
  generalize (lg_sl ([.ref (a 13), .int mo]) ++ List.replicate (2 - (lg_sl ([.ref (a 13), .int mo])).length) Slot.unset).toArray = ls at hl ⊢
  have hin2 : ∀ w ∈ wsX20, w ∈ wsX2_treasury := by decide +kernel
  have hl : lv_has ls 2 [(0, .ref (a 13)), (1, .int mo)] := hl
  refine lv_aload_n hx hb dX2_treasury_0 rfl (lv_at hl 0 rfl) ?_
  refine lv_iload_n hx hb dX2_treasury_1 rfl (lv_at hl 1 rfl) ?_
  refine caR (r := .int (bEn t mo)) (va_runV (As := [.int mo]) (rest := []) ⟨hx, hb, hml, hown, hts⟩ (c_X2_hasEnded l G y a b n la L t ht ht47 mo) (cwV 1 hts gX2_treasury_X2_hasEnded rfl rfl rfl (by decide +kernel) ⟨Nat.le_of_ble_eq_true rfl, Nat.le_of_ble_eq_true rfl⟩) ⟨rP_bl, va_recv hK.1 hP (ci := 2) (q0 := 0) rfl rfl, fun U hU hW => ⟨rfl, by rw [hU]; exact hP, Kb.moved hW hK⟩⟩ rfl rfl hl.1 rfl (lv_room (Nat.le_of_ble_eq_true rfl)) dX2_treasury_2 ⟨Nat.le_of_ble_eq_true rfl, Nat.le_of_ble_eq_true rfl⟩) ?_
  refine lv_if_ne (tgt := 18) hx hb dX2_treasury_5 (by decide) (fun c_5 => ?_) (fun c_5 => ?_)
  · have ev : xMo t mo = 0 := by unfold xMo; exact if_neg c_5
    obtain ⟨j, hj, rfl⟩ := bEn_T c_5 ht47
    refine lv_aload_n hx hb dX2_treasury_18 rfl (lv_at hl 0 rfl) ?_
    refine bkG (b := b) (val := .ref (a 11)) hx hb hts hin2 hown hK hP 11 (by decide) (hts (.fieldLink RX2 53 "FundBook" "treasuryMargins" "[I") (by decide +kernel)) rfl dX2_treasury_19 ?_
    refine lv_iload_n hx hb dX2_treasury_22 rfl (lv_at hl 1 rfl) ?_
    refine ldI (f := b 11) hx hb hK hP 15 bg_11 j rfl (by omega) (by decide) dX2_treasury_23 ?_
    refine vx_ret ?_
    refine W.widen (k := 1) (n := 6) (Nat.le_of_ble_eq_true rfl) (Nat.le_of_ble_eq_true rfl) ?_
    exact W.iret (v := b 11 j) hx hb hr (fun t ht hW => ⟨⟨(), congrArg (fun z => Outcome.returned (some (.int z))) (by rw [cnI (by omega)]), ev, by rw [ht]; exact hP, by exact hD⟩, hS.F ht⟩) hS.2.2 dX2_treasury_24
  · have ev : (xMo t mo) = 1 := by unfold xMo; exact if_pos c_5
    obtain ⟨sa, hsa⟩ := hK.2.2.2.1 (185, "the month has not ended") (by decide +kernel)
    exact vx_throwS (names := ["java/lang/RuntimeException", "java/lang/Exception"]) (cls := "java/lang/IndexOutOfBoundsException") (text := "the month has not ended") hx hb hlt hown (by decide +kernel) (by decide +kernel) (hts (.classLink RX2 59 "java/lang/IndexOutOfBoundsException") (by decide +kernel)) (hts (.initialized "java/lang/IndexOutOfBoundsException") (by decide +kernel)) hsa (vx_hat (B := .castable "java/lang/IndexOutOfBoundsException" "java/lang/IndexOutOfBoundsException" :: twD.map Cond.declares) (fun w hw => hts w (List.mem_cons_of_mem _ (List.mem_append_right _ hw))) (by decide +kernel) (hK.2.thrB (by decide +kernel))) (by decide +kernel) hZ.1 hZ.2 hS (by rw [hml]; exact hl.1) dX2_treasury_8 dX2_treasury_11 dX2_treasury_12 dX2_treasury_14 dX2_treasury_17 (fun x hx => (hout x hx).elim) (Nat.le_of_ble_eq_true rfl) (Nat.le_of_ble_eq_true rfl) (Nat.le_of_ble_eq_true rfl) (Nat.le_of_ble_eq_true rfl) hlocks (fun t _ h1 h2 => ⟨(), trivial, ⟨⟨by rw [ev]; rfl, by rw [ev]; decide⟩, hP.kept (fun k q hk => h2 q.1 (hP k q hk).lt), hD⟩, ⟨h1, fun q hq _ => h2 q hq⟩⟩) t_nil (Nat.le_of_ble_eq_true rfl) (Nat.le_of_ble_eq_true rfl)
set_option maxHeartbeats 4000000 in
set_option maxRecDepth 100000 in
theorem c_X2_interest (l : Launch) (hlt : l.stackTraces = false) (G : va_G) (y : Nat → ClassId) (a : Nat → Nat) (b : MS) (n : Nat) (la : Nat → Nat → Nat) (L : LNS) (sz : Nat) (t : Nat) (ht : b 13 4 = nI t) (ht47 : t ≤ 47) (mo : Int32) : vx_Met l yX2_interest wsX2_interest ({ frames := 6, cells := 1, slots := 6, locals := 82 }) (xP G y [.ref (a 13), .int mo] (bkW y a b n la L) sz) (mQ G (fun _ : Unit => some (.int (b 12 (cn mo)))) (fun _ => (xMo t mo) = 0) (fun _ => bkW y a b n la L) (va_A (bkW y a b n la L) sz)) (xX G (fun E => E = exN ((xMo t mo)) ∧ ¬ (xMo t mo) = 0) (bkW y a b n la L) (va_A (bkW y a b n la L) sz)) 1 6 (va_A (bkW y a b n la L) sz) := by
  refine vx_ofW (cc := cX2_interest) (maxL := 2) (ret := (some .int)) (by decide) rfl ?_
  intro p e s m args below meth c s₁ B hml hout hv
  obtain ⟨rfl, hsz, hP, hK, hD0, hZ⟩ := hv
  have hx := B.exec
  have hb := B.bytes
  have hr := B.returns
  have hts := atoms_spec (ws := wsX2_interest) B.pre
  have hown : s.vm.findClass RX2 = some m.cls := findClass_of_methodNamed B.named
  have hlocks := B.notSynchronized
  subst hsz
  have hD := hD0.self (sz := s.heap.size)
  generalize hAe : va_A (bkW y a b n la L) s.heap.size = A at hD hZ ⊢
  have hA : ∀ q : Nat, s.heap.size ≤ q → A q := fun q h => by rw [← hAe]; exact Or.inr h
  have hS : va_S A s.heap s.heap [] := va_S.rf
  have hP : va_P G vwCl (bkW y a b n la L) s.heap := hP
  have hl := lv_entry ([.ref (a 13), .int mo]) (n := 2) (Nat.le_of_ble_eq_true rfl)
  rw [lg_entry_eq]
  generalize (lg_sl ([.ref (a 13), .int mo]) ++ List.replicate (2 - (lg_sl ([.ref (a 13), .int mo])).length) Slot.unset).toArray = ls at hl ⊢
  have hin2 : ∀ w ∈ wsX20, w ∈ wsX2_interest := by decide +kernel
  have hl : lv_has ls 2 [(0, .ref (a 13)), (1, .int mo)] := hl
  refine lv_aload_n hx hb dX2_interest_0 rfl (lv_at hl 0 rfl) ?_
  refine lv_iload_n hx hb dX2_interest_1 rfl (lv_at hl 1 rfl) ?_
  refine caR (r := .int (bEn t mo)) (va_runV (As := [.int mo]) (rest := []) ⟨hx, hb, hml, hown, hts⟩ (c_X2_hasEnded l G y a b n la L t ht ht47 mo) (cwV 1 hts gX2_interest_X2_hasEnded rfl rfl rfl (by decide +kernel) ⟨Nat.le_of_ble_eq_true rfl, Nat.le_of_ble_eq_true rfl⟩) ⟨rP_bl, va_recv hK.1 hP (ci := 2) (q0 := 0) rfl rfl, fun U hU hW => ⟨rfl, by rw [hU]; exact hP, Kb.moved hW hK⟩⟩ rfl rfl hl.1 rfl (lv_room (Nat.le_of_ble_eq_true rfl)) dX2_interest_2 ⟨Nat.le_of_ble_eq_true rfl, Nat.le_of_ble_eq_true rfl⟩) ?_
  refine lv_if_ne (tgt := 18) hx hb dX2_interest_5 (by decide) (fun c_5 => ?_) (fun c_5 => ?_)
  · have ev : xMo t mo = 0 := by unfold xMo; exact if_neg c_5
    obtain ⟨j, hj, rfl⟩ := bEn_T c_5 ht47
    refine lv_aload_n hx hb dX2_interest_18 rfl (lv_at hl 0 rfl) ?_
    refine bkG (b := b) (val := .ref (a 12)) hx hb hts hin2 hown hK hP 12 (by decide) (hts (.fieldLink RX2 56 "FundBook" "bankInterests" "[I") (by decide +kernel)) rfl dX2_interest_19 ?_
    refine lv_iload_n hx hb dX2_interest_22 rfl (lv_at hl 1 rfl) ?_
    refine ldI (f := b 12) hx hb hK hP 16 bg_12 j rfl (by omega) (by decide) dX2_interest_23 ?_
    refine vx_ret ?_
    refine W.widen (k := 1) (n := 6) (Nat.le_of_ble_eq_true rfl) (Nat.le_of_ble_eq_true rfl) ?_
    exact W.iret (v := b 12 j) hx hb hr (fun t ht hW => ⟨⟨(), congrArg (fun z => Outcome.returned (some (.int z))) (by rw [cnI (by omega)]), ev, by rw [ht]; exact hP, by exact hD⟩, hS.F ht⟩) hS.2.2 dX2_interest_24
  · have ev : (xMo t mo) = 1 := by unfold xMo; exact if_pos c_5
    obtain ⟨sa, hsa⟩ := hK.2.2.2.1 (185, "the month has not ended") (by decide +kernel)
    exact vx_throwS (names := ["java/lang/RuntimeException", "java/lang/Exception"]) (cls := "java/lang/IndexOutOfBoundsException") (text := "the month has not ended") hx hb hlt hown (by decide +kernel) (by decide +kernel) (hts (.classLink RX2 59 "java/lang/IndexOutOfBoundsException") (by decide +kernel)) (hts (.initialized "java/lang/IndexOutOfBoundsException") (by decide +kernel)) hsa (vx_hat (B := .castable "java/lang/IndexOutOfBoundsException" "java/lang/IndexOutOfBoundsException" :: twD.map Cond.declares) (fun w hw => hts w (List.mem_cons_of_mem _ (List.mem_append_right _ hw))) (by decide +kernel) (hK.2.thrB (by decide +kernel))) (by decide +kernel) hZ.1 hZ.2 hS (by rw [hml]; exact hl.1) dX2_interest_8 dX2_interest_11 dX2_interest_12 dX2_interest_14 dX2_interest_17 (fun x hx => (hout x hx).elim) (Nat.le_of_ble_eq_true rfl) (Nat.le_of_ble_eq_true rfl) (Nat.le_of_ble_eq_true rfl) (Nat.le_of_ble_eq_true rfl) hlocks (fun t _ h1 h2 => ⟨(), trivial, ⟨⟨by rw [ev]; rfl, by rw [ev]; decide⟩, hP.kept (fun k q hk => h2 q.1 (hP k q hk).lt), hD⟩, ⟨h1, fun q hq _ => h2 q hq⟩⟩) t_nil (Nat.le_of_ble_eq_true rfl) (Nat.le_of_ble_eq_true rfl)
set_option maxHeartbeats 4000000 in
set_option maxRecDepth 100000 in
theorem c_X2_closeMonth (l : Launch) (hlt : l.stackTraces = false) (G : va_G) (y : Nat → ClassId) (a : Nat → Nat) (b : MS) (n : Nat) (la : Nat → Nat → Nat) (L : LNS) (sz : Nat) (pd : Nat → Nat) (hpd : ∀ k, k < n → L k 0 7 = nI (pd k) ∧ pd k ≤ 6) (t : Nat) (ht : b 13 4 = nI t) (ht47 : t ≤ 47) : vx_Met l yX2_closeMonth wsX2_closeMonth ({ frames := 6, cells := 1, slots := 6, locals := 116 }) (xP G y [.ref (a 13)] (bkW y a b n la L) sz) (mQ G (fun _ : Unit => some (.int (nI (t + 1)))) (fun _ => (xClose t) = 0) (fun _ => bkW y a (bClose b t n L pd) n la (bPA L n pd 24)) (va_A (bkW y a b n la L) sz)) (xX G (fun E => E = exN ((xClose t)) ∧ ¬ (xClose t) = 0) (bkW y a b n la L) (va_A (bkW y a b n la L) sz)) 1 6 (va_A (bkW y a b n la L) sz) := by
  refine vx_ofW (cc := cX2_closeMonth) (maxL := 1) (ret := (some .int)) (by decide) rfl ?_
  intro p e s m args below meth c s₁ B hml hout hv
  obtain ⟨rfl, hsz, hP, hK, hD0, hZ⟩ := hv
  have hx := B.exec
  have hb := B.bytes
  have hr := B.returns
  have hts := atoms_spec (ws := wsX2_closeMonth) B.pre
  have hown : s.vm.findClass RX2 = some m.cls := findClass_of_methodNamed B.named
  have hlocks := B.notSynchronized
  subst hsz
  have hD := hD0.self (sz := s.heap.size)
  generalize hAe : va_A (bkW y a b n la L) s.heap.size = A at hD hZ ⊢
  have hA : ∀ q : Nat, s.heap.size ≤ q → A q := fun q h => by rw [← hAe]; exact Or.inr h
  have hS : va_S A s.heap s.heap [] := va_S.rf
  have hP : va_P G vwCl (bkW y a b n la L) s.heap := hP
  have hl := lv_entry ([.ref (a 13)]) (n := 1) (Nat.le_of_ble_eq_true rfl)
  rw [lg_entry_eq]
  generalize (lg_sl ([.ref (a 13)]) ++ List.replicate (1 - (lg_sl ([.ref (a 13)])).length) Slot.unset).toArray = ls at hl ⊢
  have hin2 : ∀ w ∈ wsX20, w ∈ wsX2_closeMonth := by decide +kernel
  have hl : lv_has ls 1 [(0, .ref (a 13))] := hl
  refine lv_aload_n hx hb dX2_closeMonth_0 rfl (lv_at hl 0 rfl) ?_
  refine bkG (b := b) (val := .int (b 13 4)) hx hb hts hin2 hown hK hP 4 (by decide) (hts (.fieldLink RX2 23 "FundBook" "now" "I") (by decide +kernel)) rfl dX2_closeMonth_1 ?_
  refine lv_topE (z := nI t) (ht) ?_
  refine lv_bipush (v := 47) hx hb dX2_closeMonth_4 (by decide) ?_
  refine lv_icmp_lt (tgt := 19) hx hb dX2_closeMonth_6 (by decide) (fun c_6 => ?_) (fun c_6 => ?_)
  · have ht46 : t < 47 := (nI_ltI (by omega) (by decide)).mp c_6
    have ev : xClose t = 0 := if_neg (by omega)
    refine lv_aload_n hx hb dX2_closeMonth_19 rfl (lv_at hl 0 rfl) ?_
    refine caM (va_runV (As := []) (rest := []) ⟨hx, hb, hml, hown, hts⟩ (c_X2_reckonLoans l G y a b n la L s.heap.size pd hpd t ht ht46) (cwV 0 hts gX2_closeMonth_X2_reckonLoans rfl rfl rfl (by decide +kernel) ⟨Nat.le_of_ble_eq_true rfl, Nat.le_of_ble_eq_true rfl⟩) ⟨mP_bl, va_recv hK.1 hP (ci := 2) (q0 := 0) rfl rfl, fun U hU hW => ⟨rfl, by rw [hU], by rw [hU]; exact hP, Kb.moved hW hK, hD.weaken (fun _ _ _ _ => trivial)⟩⟩ rfl rfl hl.1 rfl (lv_room (Nat.le_of_ble_eq_true rfl)) dX2_closeMonth_20 ⟨Nat.le_of_ble_eq_true rfl, Nat.le_of_ble_eq_true rfl⟩) hS (freeW hD hS hA) (freeW hD hS hA) (fun _ H locs _ hP hD _ _ hS => ?_)
    refine W.eq (g2 := F0 m 23 ls []) rfl ?_
    have hP : va_P G vwCl (bkW y a (bR3 b t n L pd) n la L) H := hP
    have hD : va_D A (bkW y a (bR3 b t n L pd) n la L) := hD
    have ht2 : bR3 b t n L pd 13 4 = nI t := by rw [bR3, u2_j (by omega), u2_j (by omega), bR2_o _ (by omega) (by omega), bR1_o _ (by omega) (by omega)]; exact ht
    refine lv_aload_n hx hb dX2_closeMonth_23 rfl (lv_at hl 0 rfl) ?_
    refine caM (va_runV (As := []) (rest := []) ⟨hx, hb, hml, hown, hts⟩ (c_X2_reckonDeposits l G y a (bR3 b t n L pd) n la L H.size t ht2 ht46) (cwV 0 hts gX2_closeMonth_X2_reckonDeposits rfl rfl rfl (by decide +kernel) ⟨Nat.le_of_ble_eq_true rfl, Nat.le_of_ble_eq_true rfl⟩) ⟨mP_bl, va_recv hK.1 hP (ci := 2) (q0 := 0) rfl rfl, fun U hU hW => ⟨rfl, by rw [hU], by rw [hU]; exact hP, Kb.moved hW hK, hD.weaken (fun _ _ _ _ => trivial)⟩⟩ rfl rfl hl.1 rfl (lv_room (Nat.le_of_ble_eq_true rfl)) dX2_closeMonth_24 ⟨Nat.le_of_ble_eq_true rfl, Nat.le_of_ble_eq_true rfl⟩) hS (freeW hD hS hA) (freeW hD hS hA) (fun _ H locs _ hP hD _ _ hS => ?_)
    refine W.eq (g2 := F0 m 27 ls []) rfl ?_
    have hP : va_P G vwCl (bkW y a (bD1 (bR3 b t n L pd) t 3) n la L) H := hP
    have hD : va_D A (bkW y a (bD1 (bR3 b t n L pd) t 3) n la L) := hD
    refine lv_aload_n hx hb dX2_closeMonth_27 rfl (lv_at hl 0 rfl) ?_
    refine caM (va_runV (As := []) (rest := []) ⟨hx, hb, hml, hown, hts⟩ (c_X2_payParts l G y a (bD1 (bR3 b t n L pd) t 3) n la L H.size pd hpd) (cwV 0 hts gX2_closeMonth_X2_payParts rfl rfl rfl (by decide +kernel) ⟨Nat.le_of_ble_eq_true rfl, Nat.le_of_ble_eq_true rfl⟩) ⟨mP_bl, va_recv hK.1 hP (ci := 2) (q0 := 0) rfl rfl, fun U hU hW => ⟨rfl, by rw [hU], by rw [hU]; exact hP, Kb.moved hW hK, hD.weaken (fun _ _ _ _ => trivial)⟩⟩ rfl rfl hl.1 rfl (lv_room (Nat.le_of_ble_eq_true rfl)) dX2_closeMonth_28 ⟨Nat.le_of_ble_eq_true rfl, Nat.le_of_ble_eq_true rfl⟩) hS (freeW hD hS hA) (freeW hD hS hA) (fun _ H locs _ hP hD _ _ hS => ?_)
    refine W.eq (g2 := F0 m 31 ls []) rfl ?_
    have hP : va_P G vwCl (bkW y a (bD1 (bR3 b t n L pd) t 3) n la (bPA L n pd 24)) H := hP
    have hD : va_D A (bkW y a (bD1 (bR3 b t n L pd) t 3) n la (bPA L n pd 24)) := hD
    refine lv_aload_n hx hb dX2_closeMonth_31 rfl (lv_at hl 0 rfl) ?_
    refine lv_aload_n hx hb dX2_closeMonth_32 rfl (lv_at hl 0 rfl) ?_
    refine bkG (b := (bD1 (bR3 b t n L pd) t 3)) (val := .int ((bD1 (bR3 b t n L pd) t 3) 13 4)) hx hb hts hin2 hown hK hP 4 (by decide) (hts (.fieldLink RX2 23 "FundBook" "now" "I") (by decide +kernel)) rfl dX2_closeMonth_33 ?_
    refine lv_topE (z := nI t) (by rw [bD1_o _ (by omega) (by omega) (by omega)]; exact ht2) ?_
    refine lv_iconst (v := 1) hx hb dX2_closeMonth_36 (by decide) ?_
    refine lv_iadd hx hb dX2_closeMonth_37 ?_
    refine lv_topE (z := nI (t + 1)) (nI_1 t) ?_
    refine bkS (b := (bD1 (bR3 b t n L pd) t 3)) (x := nI (t + 1)) hx hb hts hin2 hown hK hP hD hS 4 (by decide) (hts (.fieldLink RX2 23 "FundBook" "now" "I") (by decide +kernel)) dX2_closeMonth_38 (fun H locs hP hD hS => ?_)
    refine lv_aload_n hx hb dX2_closeMonth_41 rfl (lv_at hl 0 rfl) ?_
    refine bkG (b := (u2 (bD1 (bR3 b t n L pd) t 3) 13 4 (nI (t + 1)))) (val := .ref (a 8)) hx hb hts hin2 hown hK hP 8 (by decide) (hts (.fieldLink RX2 41 "FundBook" "replica" "LFundBook$Replica;") (by decide +kernel)) rfl dX2_closeMonth_42 ?_
    refine lv_aload_n hx hb dX2_closeMonth_45 rfl (lv_at hl 0 rfl) ?_
    refine bkG (b := (u2 (bD1 (bR3 b t n L pd) t 3) 13 4 (nI (t + 1)))) (val := .int (nI (t + 1))) hx hb hts hin2 hown hK hP 4 (by decide) (hts (.fieldLink RX2 23 "FundBook" "now" "I") (by decide +kernel)) rfl dX2_closeMonth_46 ?_
    refine lv_bipush (v := 6) hx hb dX2_closeMonth_49 (by decide) ?_
    refine lv_irem hx hb dX2_closeMonth_51 (by decide) ?_
    refine lv_topE (z := nI ((t + 1) % 6)) (pk_rem (by omega) (by decide) (by decide)) ?_
    refine lv_aload_n hx hb dX2_closeMonth_52 rfl (lv_at hl 0 rfl) ?_
    refine caR (r := .int (bTA (bCl b t n L pd))) (va_runV (As := []) (rest := [.int (nI ((t + 1) % 6)), .ref (a 8)]) ⟨hx, hb, hml, hown, hts⟩ (c_X2_trancheAmount l G y a (u2 (bD1 (bR3 b t n L pd) t 3) 13 4 (nI (t + 1))) n la (bPA L n pd 24)) (cwV 0 hts gX2_closeMonth_X2_trancheAmount rfl rfl rfl (by decide +kernel) ⟨Nat.le_of_ble_eq_true rfl, Nat.le_of_ble_eq_true rfl⟩) ⟨rP_bl, va_recv hK.1 hP (ci := 2) (q0 := 0) rfl rfl, fun U hU hW => ⟨rfl, by rw [hU]; exact hP, Kb.moved hW hK⟩⟩ rfl rfl hl.1 rfl (lv_room (Nat.le_of_ble_eq_true rfl)) dX2_closeMonth_53 ⟨Nat.le_of_ble_eq_true rfl, Nat.le_of_ble_eq_true rfl⟩) ?_
    refine lv_aload_n hx hb dX2_closeMonth_56 rfl (lv_at hl 0 rfl) ?_
    refine bkG (b := (u2 (bD1 (bR3 b t n L pd) t 3) 13 4 (nI (t + 1)))) (val := .ref (a 0)) hx hb hts hin2 hown hK hP 0 (by decide) (hts (.fieldLink RX2 9 "FundBook" "curve" "[I") (by decide +kernel)) rfl dX2_closeMonth_57 ?_
    refine lv_iconst (v := 5) hx hb dX2_closeMonth_60 (by decide) ?_
    refine ldI (f := ((u2 (bD1 (bR3 b t n L pd) t 3) 13 4 (nI (t + 1))) 0)) hx hb hK hP 1 bg_0 5 rfl (by decide) (by decide) dX2_closeMonth_61 ?_
    refine lv_topE (z := bCl b t n L pd 0 5) (rfl) ?_
    refine caM (va_runVN (As := [.int (nI ((t + 1) % 6)), .int (bTA (bCl b t n L pd)), .int (bCl b t n L pd 0 5)]) (rest := []) ⟨hx, hb, hml, hown, hts⟩ (c_X1_lay l G y a (u2 (bD1 (bR3 b t n L pd) t 3) 13 4 (nI (t + 1))) n la (bPA L n pd 24) H.size ((t + 1) % 6) (Nat.mod_lt _ (by decide)) (bTA (bCl b t n L pd)) (bCl b t n L pd 0 5)) ⟨va_cnB (host := "FundBook") 3 hts gX2_closeMonth_X1_lay_n145 rfl rfl rfl (hK.nw (by decide +kernel)) (hts (.initialized RX1) (by decide +kernel)) (by decide +kernel) ⟨Nat.le_of_ble_eq_true rfl, Nat.le_of_ble_eq_true rfl⟩, hts (.instanceMethod yX1_lay) (by decide +kernel), hts (.selects RX1 yX1_lay yX1_lay) (by decide +kernel)⟩ ⟨mP_bl, va_recv hK.1 hP (ci := 1) (q0 := 4) rfl rfl, fun U hU hW => ⟨rfl, by rw [hU], by rw [hU]; exact hP, Kb.moved hW hK, hD.weaken (fun _ _ _ _ => trivial)⟩⟩ rfl rfl hl.1 rfl (lv_room (Nat.le_of_ble_eq_true rfl)) dX2_closeMonth_62 ⟨Nat.le_of_ble_eq_true rfl, Nat.le_of_ble_eq_true rfl⟩) hS (freeW hD hS hA) (freeW hD hS hA) (fun _ H locs _ hP hD _ _ hS => ?_)
    refine W.eq (g2 := F0 m 65 ls []) rfl ?_
    have hP : va_P G vwCl (bkW y a (bClose b t n L pd) n la (bPA L n pd 24)) H := hP
    have hD : va_D A (bkW y a (bClose b t n L pd) n la (bPA L n pd 24)) := hD
    refine lv_aload_n hx hb dX2_closeMonth_65 rfl (lv_at hl 0 rfl) ?_
    refine bkG (b := (bClose b t n L pd)) (val := .int ((bClose b t n L pd) 13 4)) hx hb hts hin2 hown hK hP 4 (by decide) (hts (.fieldLink RX2 23 "FundBook" "now" "I") (by decide +kernel)) rfl dX2_closeMonth_66 ?_
    refine lv_topE (z := nI (t + 1)) (rfl) ?_
    refine vx_ret ?_
    refine W.widen (k := 1) (n := 6) (Nat.le_of_ble_eq_true rfl) (Nat.le_of_ble_eq_true rfl) ?_
    exact W.iret (v := nI (t + 1)) hx hb hr (fun t ht hW => ⟨⟨(), congrArg (fun z => Outcome.returned (some (.int z))) (rfl), ev, by rw [ht]; exact hP, by exact hD⟩, hS.F ht⟩) hS.2.2 dX2_closeMonth_69
  · have ev : (xClose t) = 3 := by unfold xClose; exact if_pos (by have h9 : ¬ t < 47 := fun q => c_6 ((nI_ltI (by omega) (by decide)).mpr q); omega)
    obtain ⟨sa, hsa⟩ := hK.2.2.2.1 (134, "it is the last month") (by decide +kernel)
    exact vx_throwS (names := ["java/lang/RuntimeException", "java/lang/Exception"]) (cls := "java/lang/IllegalStateException") (text := "it is the last month") hx hb hlt hown (by decide +kernel) (by decide +kernel) (hts (.classLink RX2 84 "java/lang/IllegalStateException") (by decide +kernel)) (hts (.initialized "java/lang/IllegalStateException") (by decide +kernel)) hsa (vx_hat (B := .castable "java/lang/IllegalStateException" "java/lang/IllegalStateException" :: twD.map Cond.declares) (fun w hw => hts w (List.mem_cons_of_mem _ (List.mem_append_right _ hw))) (by decide +kernel) (hK.2.thrB (by decide +kernel))) (by decide +kernel) hZ.1 hZ.2 hS (by rw [hml]; exact hl.1) dX2_closeMonth_9 dX2_closeMonth_12 dX2_closeMonth_13 dX2_closeMonth_15 dX2_closeMonth_18 (fun x hx => (hout x hx).elim) (Nat.le_of_ble_eq_true rfl) (Nat.le_of_ble_eq_true rfl) (Nat.le_of_ble_eq_true rfl) (Nat.le_of_ble_eq_true rfl) hlocks (fun t _ h1 h2 => ⟨(), trivial, ⟨⟨by rw [ev]; rfl, by rw [ev]; decide⟩, hP.kept (fun k q hk => h2 q.1 (hP k q hk).lt), hD⟩, ⟨h1, fun q hq _ => h2 q hq⟩⟩) t_nil (Nat.le_of_ble_eq_true rfl) (Nat.le_of_ble_eq_true rfl)
end
section
/-! ===== making: arrays of known classes, a callee's new cells beside the caller's world (mine) ===== -/
section AL
variable {p : Program} {l : Launch} {e : Env} {R : Room} {s : State} {m : MethodId} {args : Array Value} {below : List Frame} {meth : Method} {c : Code} {H : Heap} {locs : List Loc} {cells slots : Nat} {Q : State → Prop}
variable {cc : ByteArray} {pc : Nat} {ls : Array Slot} {rest st0 : List Value} {G : va_G} {y : Nat → ClassId} {A A0 A1 : Nat → Prop} {H0 : Heap} {mc ms : Nat} {free : Addr → Prop} {ag : Array Value} {ws : va_W}
theorem last_ty {tys : List (ClassId × FieldType)} {cA : ClassId} {ty : FieldType} (h : va_K G vwCl (tys ++ [(cA, ty)]) s) : va_RA s cA ty :=
  (h.2 tys.length (cA, ty) (by rw [List.getElem?_append_right (Nat.le_refl _), Nat.sub_self]; rfl)).2
theorem nwI {x : Int32} {N : Nat} (hexec : p.tables.exec = Jvm.exec) (hb : c.code = cc) (harr : (Cond.arrayClass .int).before args s = true) (hK : Kb G y s) (hP : va_P G vwCl ws H) (hD : va_D A ws) (hS : va_S A H0 H locs) (hA : ∀ q, H0.size ≤ q → A q) (hx : x = nI N) (hN : N ≤ 1000) (hcells : cells + 1 ≤ R.cells) (hslots : slots + N ≤ R.slots) (hdg : decode cc pc = .ok (.newarray .int, 2))
    (kk : ∀ (q : Nat) (H1 : Heap), va_P G vwCl (ws ++ [(q, .inl (y 0, N, .inl (fun _ => 0)))]) H1 → va_D A (ws ++ [(q, .inl (y 0, N, .inl (fun _ => 0)))]) → va_S A H0 H1 locs → W p l e R s m args below meth c H1 locs (cells + 1) (slots + N) Q (F0 m (pc + 2) ls (.ref q :: rest))) : W p l e R s m args below meth c H locs cells slots Q (F0 m pc ls (.int x :: rest)) := by
  subst hx
  refine va_newa (atype := .int) (ty := .int) (a0 := (N, .inl (fun _ => 0))) hexec hb harr rfl hK.1 hP hD hS hA (fun _ => rfl) (nI_pos (by omega)) (nI_clamp (by omega)) (by show N * 4 ≤ _; omega) hcells hslots hdg (fun q cA H1 hk h1 h2 h3 => ?_)
  have e : cA = y 0 := Option.some.inj ((last_ty hk).symm.trans (hK.1.2 0 (y 0, .int) rfl).2)
  subst e
  exact kk q H1 h1 h2 h3
/-- a callee's answer, its new world as it left it -/
theorem caN {S : Type} {rv : S → Option Value} {post : S → Prop} {ws' : S → va_W} (hr : va_Run p l e R s m args below meth c H locs cells slots mc ms (F0 m pc ls st0) rest (mQ G rv post ws' A1 ag) free) (hS : va_S A0 H0 H locs) (hA : ∀ q, A1 q → A0 q) (hf : ∀ q, free q → A0 q)
    (kk : ∀ (u : S) (H1 : Heap) (locs1 : List Loc), post u → va_P G vwCl (ws' u) H1 → va_D A1 (ws' u) → (∀ q : Nat, q < H.size → ¬ A1 q → H1[q]? = H[q]?) → va_S A0 H0 H1 locs1 → W p l e R s m args below meth c H1 locs1 (cells + mc) (slots + ms) Q (F0 m (pc + 3) ls ((rv u).toList ++ rest))) : W p l e R s m args below meth c H locs cells slots Q (F0 m pc ls st0) := by
  intro T hT X
  obtain ⟨v, st₀, t, T', L, h0, X', hL, e1, e2, ⟨⟨u, hv, hp, hb, hd⟩, hz, hk⟩, st⟩ := hr T hT X
  cases hv
  rw [h0] at hz hk
  obtain ⟨t2, a1, b1⟩ := kk u T'.heap (locs ++ L) hp (by rw [e1]; exact hb) hd (fun q h1 h2 => by rw [e1]; exact hk q h1 h2)
    ⟨Nat.le_trans hS.1 (by rw [e1]; exact hz), fun q h1 h2 => by rw [e1, hk q (Nat.lt_of_lt_of_le h1 hS.1) (fun z => h2 (hA q z))]; exact hS.2.1 q h1 h2, fun q hq => by
      rcases List.mem_append.mp hq with h | h
      · exact hS.2.2 q h
      · exact hf _ (hL q h)⟩ T' rfl X'
  exact ⟨t2, st t2 a1, b1⟩
/-- beside a world that the callee didn't get: one that it made, or changed (wc: what it got) -/
theorem joinW {H1 : Heap} {wr wc w1 : va_W} (hP : va_P G vwCl (wr ++ wc) H) (hD : va_D A (wr ++ wc)) (hk : ∀ q : Nat, q < H.size → ¬ va_A wc H.size q → H1[q]? = H[q]?) (hP1 : va_P G vwCl w1 H1) (hD1 : va_D (va_A wc H.size) w1) (hF : ∀ q, va_A wc H.size q → A q) : va_P G vwCl (wr ++ w1) H1 ∧ va_D A (wr ++ w1) := by
  have hl : ∀ (k : Nat) (q : Nat × va_E), wr[k]? = some q → (wr ++ wc)[k]? = some q := fun k q h => by
    rw [List.getElem?_append_left (List.getElem?_eq_some_iff.mp h).1]; exact h
  have apart : ∀ (k : Nat) (q : Nat × va_E), wr[k]? = some q → q.1 < H.size ∧ ¬ va_A wc H.size q.1 := by
    intro k q hq
    have h2 := hl k q hq
    have h3 := (hP k q h2).lt
    refine ⟨h3, fun h => ?_⟩
    rcases h with ⟨k2, e2, h⟩ | h
    · have h4 : (wr ++ wc)[wr.length + k2]? = some (q.1, e2) := by rw [List.getElem?_append_right (Nat.le_add_right _ _), Nat.add_sub_cancel_left]; exact h
      have h5 := hD.1 k (wr.length + k2) q (q.1, e2) h2 h4 rfl
      have h6 := (List.getElem?_eq_some_iff.mp hq).1
      omega
    · exact absurd h (by omega)
  have hDr : va_D A wr := ⟨fun i j x z hi hj e => hD.1 i j x z (hl i x hi) (hl j z hj) e, fun k q hq => hD.2 k q (hl k q hq)⟩
  refine ⟨va_P.app (fun k q hq => ?_) hP1, va_D.app hDr (hD1.weaken (fun k q _ h => hF q.1 h)) (fun i j x z hx hz e => ?_)⟩
  · obtain ⟨g1, g2⟩ := apart k q hq
    exact (hP k q (hl k q hq)).kept (hk q.1 g1 g2)
  · exact (apart i x hx).2 (by rw [e]; exact hD1.2 j z hz)
end AL
theorem lrF_up {n : Nat} {la : Nat → Nat → Nat} {u : Nat → Nat} : va_up (lrF n la) n (some (u 0)) = lrF (n + 1) (fun i j => if i = n then u j else la i j) := by
  funext k
  unfold va_up lrF
  by_cases e : k = n
  · subst e
    rw [if_pos rfl, if_pos (by omega)]
    show some (u 0) = some (if k = k then u 0 else la k 0)
    rw [if_pos rfl]
  · rw [if_neg e]
    by_cases h : k < n
    · rw [if_pos h, if_pos (by omega)]
      show some (la k 0) = some (if k = n then u 0 else la k 0)
      rw [if_neg e]
    · rw [if_neg h, if_neg (by omega)]
/-- the n-th loan laid beside the others -/
theorem bk_add {y : Nat → ClassId} {a : Nat → Nat} {b : MS} {n : Nat} {la : Nat → Nat → Nat} {L : LNS} {u : Nat → Nat} {w : MS} :
    ((bkX y a b n la).set 2 (a 5, .inl (y 2, 24, .inr (.inr (.inr (.inr (va_up (lrF n la) n (some (u 0)))))))) ++ lnW y la L n) ++ [(u 0, .inr (0, [.int (w 0 0), .int (w 0 1), .int (w 0 2), .int (w 0 3), .int (w 0 4), .ref (u 1), .ref (u 2), .int (w 0 7)])), (u 1, .inl (y 0, 6, .inl (w 1))), (u 2, .inl (y 0, 6, .inl (w 2)))] = bkW y a b (n + 1) (fun i j => if i = n then u j else la i j) (fun i => if i = n then w else L i) := by
  rw [lrF_up, bkW, lnW, List.append_assoc, lnW_congr (la' := fun i j => if i = n then u j else la i j) (L' := fun i => if i = n then w else L i) (fun i hi => by funext j; exact (if_neg (by omega)).symm) (fun i hi => (if_neg (by omega)).symm)]
  simp [bkX, lnC, lnF]

section PM
variable {G : va_G} {cl : List vw_C} {A : Nat → Prop} {H : Heap} {W : va_W} {c0 c1 c2 c0' : Nat × va_E}
theorem appL {w1 w2 : va_W} (h : va_P G cl (w1 ++ w2) H) : va_P G cl w1 H := fun k q hk => h k q (by rw [List.getElem?_append_left (List.getElem?_eq_some_iff.mp hk).1]; exact hk)
theorem pm3P (h : va_P G cl (((W ++ [c1]) ++ [c0]) ++ [c2]) H) : va_P G cl (W ++ [c0, c1, c2]) H := by
  have h1 := appL h
  have h2 : va_P G cl ((W ++ [c0]) ++ [c1]) H := va_P.swap h1
  have h3 : va_P G cl [c2] H := fun k q hk => h (W.length + 2 + k) q (by
    rw [List.getElem?_append_right (by simp), show W.length + 2 + k - ((W ++ [c1]) ++ [c0]).length = k by simp]
    exact hk)
  have h4 := h2.app h3
  simpa using h4
theorem pm3D (h : va_D A (((W ++ [c1]) ++ [c0]) ++ [c2])) : va_D A (W ++ [c0, c1, c2]) := by
  have e1 : ((W ++ [c1]) ++ [c0]) ++ [c2] = (W ++ [c1]) ++ ([c0] ++ [c2]) := by simp
  rw [e1] at h
  have h2 := va_D.swap h
  have e2 : (W ++ ([c0] ++ [c2])) ++ [c1] = ((W ++ [c0]) ++ [c2]) ++ [c1] := by simp
  rw [e2] at h2
  have h3 := va_D.swap h2
  simpa using h3
theorem pm3g : (W ++ [c0, c1, c2])[W.length]? = some c0 := by simp
theorem pm3s : (W ++ [c0, c1, c2]).set W.length c0' = W ++ [c0', c1, c2] := by simp
end PM
/-- cutIntoParts: the row after k places -/
def cR (am pt : Int32) (M : Nat) : Nat → (Nat → Int32)
  | 0 => fun _ => 0
  | k + 1 => if nI M - 1 ≤ nI k then (if nI k = nI M - 1 then upd (cR am pt M k) k (am - pt * (nI M - 1)) else cR am pt M k) else upd (cR am pt M k) k pt
def bOr (b : MS) (op : Int32) : Int32 := if op = 0 then 0 else b 13 2
/-- a new loan's rows -/
def lNew (br pr rt op opr : Int32) (parts curve : Nat → Int32) : MS := fun j => if j = 0 then (fun k => if k = 0 then br else if k = 1 then pr else if k = 2 then rt else if k = 3 then op else if k = 4 then opr else 0) else if j = 1 then parts else curve
def u012 (q0 q1 q2 : Nat) : Nat → Nat := fun j => if j = 0 then q0 else if j = 1 then q1 else q2
abbrev lz0 : List Value := [.int 0, .int 0, .int 0, .int 0, .int 0, .null, .null, .int 0]
theorem vaP_nil {G : va_G} {cl : List vw_C} {H : Heap} : va_P G cl [] H := fun k q h => by simp at h
theorem vaD_nil {A : Nat → Prop} : va_D A [] := ⟨fun i j x z h => by simp at h, fun k q h => by simp at h⟩
theorem A_nil {sz q : Nat} (h : va_A [] sz q) : sz ≤ q := by
  rcases h with ⟨k, e, h⟩ | h
  · simp at h
  · exact h
end
section
/-! ===== Loan(), cutIntoParts, lend (printed by a program of mine) ===== -/
set_option maxHeartbeats 4000000 in
set_option maxRecDepth 100000 in
theorem c_X0_init (l : Launch) (G : va_G) (y : Nat → ClassId) (ws : va_W) (k h0 sz : Nat) (hk : ws[k]? = some (h0, .inr (0, lz0))) (br pr rt op opr : Int32) (q1 q2 : Nat) (hop : op = 0 ∨ op = 1) : Met l yX0_init wsX0_init ({ frames := 1, cells := 0, slots := 0, locals := 12 }) (mP G y [.ref h0, .int br, .int pr, .int rt, .int op, .int opr, .ref q1, .ref q2] ws sz) (mQ G (fun _ : Unit => none) (fun _ => True) (fun _ => ws.set k (h0, .inr (0, [.int br, .int pr, .int rt, .int op, .int opr, .ref q1, .ref q2, .int 0]))) (va_A ws sz)) 0 0 (va_A ws sz) := by
  refine Met.ofW (cc := cX0_init) (maxL := 8) (ret := none) (by decide) rfl ?_
  intro p e s m args below meth c s₁ B hml hv
  obtain ⟨rfl, hsz, hP, hK, hD0⟩ := hv
  have hx := B.exec
  have hb := B.bytes
  have hr := B.returns
  have hts := atoms_spec (ws := wsX0_init) B.pre
  have hown : s.vm.findClass RX0 = some m.cls := findClass_of_methodNamed B.named
  have hlocks := B.notSynchronized
  subst hsz
  have hD := hD0.self (sz := s.heap.size)
  generalize hAe : va_A ws s.heap.size = A at hD ⊢
  have hA : ∀ q : Nat, s.heap.size ≤ q → A q := fun q h => by rw [← hAe]; exact Or.inr h
  have hS : va_S A s.heap s.heap [] := va_S.rf
  have hP : va_P G vwCl ws s.heap := hP
  have hl := lv_entry ([.ref h0, .int br, .int pr, .int rt, .int op, .int opr, .ref q1, .ref q2]) (n := 8) (Nat.le_of_ble_eq_true rfl)
  rw [lg_entry_eq]
  generalize (lg_sl ([.ref h0, .int br, .int pr, .int rt, .int op, .int opr, .ref q1, .ref q2]) ++ List.replicate (8 - (lg_sl ([.ref h0, .int br, .int pr, .int rt, .int op, .int opr, .ref q1, .ref q2])).length) Slot.unset).toArray = ls at hl ⊢
  have hin0 : ∀ w ∈ wsX00, w ∈ wsX0_init := by decide +kernel
  have hl : lv_has ls 8 [(0, .ref h0), (1, .int br), (2, .int pr), (3, .int rt), (4, .int op), (5, .int opr), (6, .ref q1), (7, .ref q2)] := hl
  have hin : meth.name = "<init>" := (name_of_methodNamed B.named B.method).1
  refine lv_aload_n hx hb dX0_init_0 rfl (lv_at hl 0 rfl) ?_
  refine W.objInit hx hb hown (hts (.methodLink RX0 3 objectInit) (by decide +kernel)) (hts (.instanceMethod objectInit) (by decide +kernel)) (hts (.code objectInit ⟨#[0xb1]⟩ 1 none) (by decide +kernel)) rfl (by rw [hml]; exact hl.1) rfl dX0_init_1 (Nat.le_of_ble_eq_true rfl) (Nat.le_of_ble_eq_true rfl) ?_
  refine W.eq (g2 := F0 m 4 ls []) rfl ?_
  have hkk : ∀ e9, (ws.set k e9)[k]? = some e9 := fun e9 => List.getElem?_set_self (List.getElem?_eq_some_iff.mp hk).1
  refine lv_aload_n hx hb dX0_init_4 rfl (lv_at hl 0 rfl) ?_
  refine lv_iload_n hx hb dX0_init_5 rfl (lv_at hl 1 rfl) ?_
  refine va_putF (D := G) (ci := 0) (v := .int br) (ty := .int) (C := RX0) (T := TX0) (N := 8) hx hb hts hin0 tyX0 tyX0_ok nmX0 hown hK.1 hP hD hS k hk rfl 0 (by decide) (hts (.fieldLink RX0 9 "FundBook$Loan" "branch" "I") (by decide +kernel)) (fun _ h9 => h9) rfl hin rfl (by decide +kernel) rfl rfl (Nat.le_of_ble_eq_true rfl) dX0_init_6 (fun H locs hP hD hS => ?_)
  have hP : va_P G vwCl (ws.set k (h0, .inr (0, [.int br, .int 0, .int 0, .int 0, .int 0, .null, .null, .int 0]))) H := hP
  have hD : va_D A (ws.set k (h0, .inr (0, [.int br, .int 0, .int 0, .int 0, .int 0, .null, .null, .int 0]))) := hD
  refine lv_aload_n hx hb dX0_init_9 rfl (lv_at hl 0 rfl) ?_
  refine lv_iload_n hx hb dX0_init_10 rfl (lv_at hl 2 rfl) ?_
  refine va_putF (D := G) (ci := 0) (v := .int pr) (ty := .int) (C := RX0) (T := TX0) (N := 8) hx hb hts hin0 tyX0 tyX0_ok nmX0 hown hK.1 hP hD hS k (hkk _) rfl 1 (by decide) (hts (.fieldLink RX0 15 "FundBook$Loan" "product" "I") (by decide +kernel)) (fun _ h9 => h9) rfl hin rfl (by decide +kernel) rfl rfl (Nat.le_of_ble_eq_true rfl) dX0_init_11 (fun H locs hP hD hS => ?_)
  rw [List.set_set] at hP hD
  have hP : va_P G vwCl (ws.set k (h0, .inr (0, [.int br, .int pr, .int 0, .int 0, .int 0, .null, .null, .int 0]))) H := hP
  have hD : va_D A (ws.set k (h0, .inr (0, [.int br, .int pr, .int 0, .int 0, .int 0, .null, .null, .int 0]))) := hD
  refine lv_aload_n hx hb dX0_init_14 rfl (lv_at hl 0 rfl) ?_
  refine lv_iload_n hx hb dX0_init_15 rfl (lv_at hl 3 rfl) ?_
  refine va_putF (D := G) (ci := 0) (v := .int rt) (ty := .int) (C := RX0) (T := TX0) (N := 8) hx hb hts hin0 tyX0 tyX0_ok nmX0 hown hK.1 hP hD hS k (hkk _) rfl 2 (by decide) (hts (.fieldLink RX0 18 "FundBook$Loan" "rate" "I") (by decide +kernel)) (fun _ h9 => h9) rfl hin rfl (by decide +kernel) rfl rfl (Nat.le_of_ble_eq_true rfl) dX0_init_16 (fun H locs hP hD hS => ?_)
  rw [List.set_set] at hP hD
  have hP : va_P G vwCl (ws.set k (h0, .inr (0, [.int br, .int pr, .int rt, .int 0, .int 0, .null, .null, .int 0]))) H := hP
  have hD : va_D A (ws.set k (h0, .inr (0, [.int br, .int pr, .int rt, .int 0, .int 0, .null, .null, .int 0]))) := hD
  refine lv_aload_n hx hb dX0_init_19 rfl (lv_at hl 0 rfl) ?_
  refine lv_iload hx hb dX0_init_20 (lv_at hl 4 rfl) ?_
  refine va_putF (D := G) (ci := 0) (v := .int op) (ty := .boolean) (C := RX0) (T := TX0) (N := 8) hx hb hts hin0 tyX0 tyX0_ok nmX0 hown hK.1 hP hD hS k (hkk _) rfl 3 (by decide) (hts (.fieldLink RX0 21 "FundBook$Loan" "hasOption" "Z") (by decide +kernel)) (fun _ h9 => h9) rfl hin rfl (by decide +kernel) (by rcases hop with rfl | rfl <;> rfl) (by rcases hop with rfl | rfl <;> rfl) (Nat.le_of_ble_eq_true rfl) dX0_init_22 (fun H locs hP hD hS => ?_)
  rw [List.set_set] at hP hD
  have hP : va_P G vwCl (ws.set k (h0, .inr (0, [.int br, .int pr, .int rt, .int op, .int 0, .null, .null, .int 0]))) H := hP
  have hD : va_D A (ws.set k (h0, .inr (0, [.int br, .int pr, .int rt, .int op, .int 0, .null, .null, .int 0]))) := hD
  refine lv_aload_n hx hb dX0_init_25 rfl (lv_at hl 0 rfl) ?_
  refine lv_iload hx hb dX0_init_26 (lv_at hl 5 rfl) ?_
  refine va_putF (D := G) (ci := 0) (v := .int opr) (ty := .int) (C := RX0) (T := TX0) (N := 8) hx hb hts hin0 tyX0 tyX0_ok nmX0 hown hK.1 hP hD hS k (hkk _) rfl 4 (by decide) (hts (.fieldLink RX0 25 "FundBook$Loan" "optionRate" "I") (by decide +kernel)) (fun _ h9 => h9) rfl hin rfl (by decide +kernel) rfl rfl (Nat.le_of_ble_eq_true rfl) dX0_init_28 (fun H locs hP hD hS => ?_)
  rw [List.set_set] at hP hD
  have hP : va_P G vwCl (ws.set k (h0, .inr (0, [.int br, .int pr, .int rt, .int op, .int opr, .null, .null, .int 0]))) H := hP
  have hD : va_D A (ws.set k (h0, .inr (0, [.int br, .int pr, .int rt, .int op, .int opr, .null, .null, .int 0]))) := hD
  refine lv_aload_n hx hb dX0_init_31 rfl (lv_at hl 0 rfl) ?_
  refine lv_aload hx hb dX0_init_32 (lv_at hl 6 rfl) ?_
  refine va_putF (D := G) (ci := 0) (v := .ref q1) (ty := (.array .int)) (C := RX0) (T := TX0) (N := 8) hx hb hts hin0 tyX0 tyX0_ok nmX0 hown hK.1 hP hD hS k (hkk _) rfl 5 (by decide) (hts (.fieldLink RX0 28 "FundBook$Loan" "parts" "[I") (by decide +kernel)) (fun _ h9 => h9) rfl hin rfl (by decide +kernel) rfl rfl (Nat.le_of_ble_eq_true rfl) dX0_init_34 (fun H locs hP hD hS => ?_)
  rw [List.set_set] at hP hD
  have hP : va_P G vwCl (ws.set k (h0, .inr (0, [.int br, .int pr, .int rt, .int op, .int opr, .ref q1, .null, .int 0]))) H := hP
  have hD : va_D A (ws.set k (h0, .inr (0, [.int br, .int pr, .int rt, .int op, .int opr, .ref q1, .null, .int 0]))) := hD
  refine lv_aload_n hx hb dX0_init_37 rfl (lv_at hl 0 rfl) ?_
  refine lv_aload hx hb dX0_init_38 (lv_at hl 7 rfl) ?_
  refine va_putF (D := G) (ci := 0) (v := .ref q2) (ty := (.array .int)) (C := RX0) (T := TX0) (N := 8) hx hb hts hin0 tyX0 tyX0_ok nmX0 hown hK.1 hP hD hS k (hkk _) rfl 6 (by decide) (hts (.fieldLink RX0 32 "FundBook$Loan" "fundingRates" "[I") (by decide +kernel)) (fun _ h9 => h9) rfl hin rfl (by decide +kernel) rfl rfl (Nat.le_of_ble_eq_true rfl) dX0_init_40 (fun H locs hP hD hS => ?_)
  rw [List.set_set] at hP hD
  have hP : va_P G vwCl (ws.set k (h0, .inr (0, [.int br, .int pr, .int rt, .int op, .int opr, .ref q1, .ref q2, .int 0]))) H := hP
  have hD : va_D A (ws.set k (h0, .inr (0, [.int br, .int pr, .int rt, .int op, .int opr, .ref q1, .ref q2, .int 0]))) := hD
  refine lv_aload_n hx hb dX0_init_43 rfl (lv_at hl 0 rfl) ?_
  refine lv_iconst (v := 0) hx hb dX0_init_44 (by decide) ?_
  refine va_put (D := G) (ci := 0) (v := .int 0) (ty := .int) (C := RX0) (T := TX0) (N := 8) hx hb hts hin0 tyX0 tyX0_ok nmX0 hown hK.1 hP hD hS k (hkk _) rfl 7 (by decide) (hts (.fieldLink RX0 35 "FundBook$Loan" "paidParts" "I") (by decide +kernel)) (fun _ h9 => h9) rfl (by decide +kernel) rfl rfl (Nat.le_of_ble_eq_true rfl) dX0_init_45 (fun H locs hP hD hS => ?_)
  rw [List.set_set] at hP hD
  have hP : va_P G vwCl (ws.set k (h0, .inr (0, [.int br, .int pr, .int rt, .int op, .int opr, .ref q1, .ref q2, .int 0]))) H := hP
  have hD : va_D A (ws.set k (h0, .inr (0, [.int br, .int pr, .int rt, .int op, .int opr, .ref q1, .ref q2, .int 0]))) := hD
  exact W.vret hx hb hr (fun t ht hW => ⟨⟨(), rfl, trivial, by rw [ht]; exact hP, hD⟩, hS.F ht⟩) hS.2.2 dX0_init_48
set_option maxHeartbeats 4000000 in
set_option maxRecDepth 100000 in
theorem c_X2_cutIntoParts (l : Launch) (G : va_G) (y : Nat → ClassId) (am pt : Int32) (M sz : Nat) (hM : M ≤ 6) : Met l yX2_cutIntoParts wsX2_cutIntoParts ({ frames := 0, cells := 1, slots := 6, locals := 0 }) (mP G y [.int am, .int pt, .int (nI M)] [] sz) (mQ G (fun q : Nat => some (.ref q)) (fun _ => True) (fun q => [(q, .inl (y 0, 6, .inl (cR am pt M 6)))]) (va_A [] sz)) 1 6 (va_A [] sz) := by
  refine Met.ofW (cc := cX2_cutIntoParts) (maxL := 5) (ret := (some (.array .int))) (by decide) rfl ?_
  intro p e s m args below meth c s₁ B hml hv
  obtain ⟨rfl, hsz, hP, hK, hD0⟩ := hv
  have hx := B.exec
  have hb := B.bytes
  have hr := B.returns
  have hts := atoms_spec (ws := wsX2_cutIntoParts) B.pre
  have hown : s.vm.findClass RX2 = some m.cls := findClass_of_methodNamed B.named
  have hlocks := B.notSynchronized
  subst hsz
  have hD := hD0.self (sz := s.heap.size)
  generalize hAe : va_A ([]) s.heap.size = A at hD ⊢
  have hA : ∀ q : Nat, s.heap.size ≤ q → A q := fun q h => by rw [← hAe]; exact Or.inr h
  have hS : va_S A s.heap s.heap [] := va_S.rf
  have hP : va_P G vwCl ([]) s.heap := hP
  have hl := lv_entry ([.int am, .int pt, .int (nI M)]) (n := 5) (Nat.le_of_ble_eq_true rfl)
  rw [lg_entry_eq]
  generalize (lg_sl ([.int am, .int pt, .int (nI M)]) ++ List.replicate (5 - (lg_sl ([.int am, .int pt, .int (nI M)])).length) Slot.unset).toArray = ls at hl ⊢
  have hl : lv_has ls 5 [(0, .int am), (1, .int pt), (2, .int (nI M))] := hl
  refine lv_bipush (v := 6) hx hb dX2_cutIntoParts_0 (by decide) ?_
  refine nwI (N := 6) hx hb (hts (.arrayClass .int) (by decide +kernel)) hK hP hD hS hA rfl (by decide) (Nat.le_of_ble_eq_true rfl) (Nat.le_of_ble_eq_true rfl) dX2_cutIntoParts_2 (fun q H hP hD hS => ?_)
  refine W.widen (k := 1) (n := 6) (Nat.le_refl _) (Nat.le_refl _) ?_
  refine lv_astore_n (lv' := [(3, .ref q), (0, .int am), (1, .int pt), (2, .int (nI M))]) hx hb dX2_cutIntoParts_4 rfl hl (by decide) rfl (fun ls hl => ?_)
  refine lv_iconst (v := 0) hx hb dX2_cutIntoParts_5 (by decide) ?_
  refine lv_istore (lv' := [(4, .int 0), (3, .ref q), (0, .int am), (1, .int pt), (2, .int (nI M))]) hx hb dX2_cutIntoParts_6 hl (by decide) rfl (fun ls hl => ?_)
  refine loopM (LV := fun k => [(0, .int am), (1, .int pt), (2, .int (nI M)), (3, .ref q), (4, .int (nI k))]) (WS := fun k => [(q, .inl (y 0, 6, .inl (cR am pt M k)))]) 6 hP hD hS (lv_sub hl [2, 3, 4, 1, 0] rfl) (fun k H locs ls hk_k hP hD hS hl ih_k => ?_) (fun H locs ls hP hD hS hl => ?_)
  · have hl : lv_has ls 5 [(0, .int am), (1, .int pt), (2, .int (nI M)), (3, .ref q), (4, .int (nI k))] := hl
    have hP : va_P G vwCl ([(q, .inl (y 0, 6, .inl (cR am pt M k)))]) H := hP
    have hD : va_D A ([(q, .inl (y 0, 6, .inl (cR am pt M k)))]) := hD
    refine lv_iload hx hb dX2_cutIntoParts_8 (lv_at hl 4 rfl) ?_
    refine lv_bipush (v := 6) hx hb dX2_cutIntoParts_10 (by decide) ?_
    refine lv_icmp_ge (tgt := 56) hx hb dX2_cutIntoParts_12 (by decide) (fun c_12 => absurd c_12 (nI_ge hk_k (by decide))) (fun c_12 => ?_)
    refine lv_iload hx hb dX2_cutIntoParts_15 (lv_at hl 4 rfl) ?_
    refine lv_iload_n hx hb dX2_cutIntoParts_17 rfl (lv_at hl 2 rfl) ?_
    refine lv_iconst (v := 1) hx hb dX2_cutIntoParts_18 (by decide) ?_
    refine lv_isub hx hb dX2_cutIntoParts_19 ?_
    refine lv_icmp_ge (tgt := 31) hx hb dX2_cutIntoParts_20 (by decide) (fun c_20 => ?_) (fun c_20 => ?_)
    · refine lv_iload hx hb dX2_cutIntoParts_31 (lv_at hl 4 rfl) ?_
      refine lv_iload_n hx hb dX2_cutIntoParts_33 rfl (lv_at hl 2 rfl) ?_
      refine lv_iconst (v := 1) hx hb dX2_cutIntoParts_34 (by decide) ?_
      refine lv_isub hx hb dX2_cutIntoParts_35 ?_
      refine lv_icmp_ne (tgt := 50) hx hb dX2_cutIntoParts_36 (by decide) (fun c_36 => ?_) (fun c_36 => ?_)
      · have hP : va_P G vwCl [(q, .inl (y 0, 6, .inl (cR am pt M (k + 1))))] H := by rw [cR, if_pos c_20, if_neg c_36]; exact hP
        have hD : va_D A [(q, .inl (y 0, 6, .inl (cR am pt M (k + 1))))] := by rw [cR, if_pos c_20, if_neg c_36]; exact hD
        refine lv_iinc (v := (nI (k + 1))) (lv' := [(4, .int (nI (k + 1))), (0, .int am), (1, .int pt), (2, .int (nI M)), (3, .ref q)]) hx hb dX2_cutIntoParts_50 hl (k := 4) rfl iinc1 (by decide) rfl (fun ls hl => ?_)
        refine lv_goto (tgt := 8) hx hb dX2_cutIntoParts_53 (by decide) ?_
        exact ih_k _ _ ls hP hD hS (lv_sub hl [1, 2, 3, 4, 0] rfl)
      · refine lv_aload_n hx hb dX2_cutIntoParts_39 rfl (lv_at hl 3 rfl) ?_
        refine lv_iload hx hb dX2_cutIntoParts_40 (lv_at hl 4 rfl) ?_
        refine lv_iload_n hx hb dX2_cutIntoParts_42 rfl (lv_at hl 0 rfl) ?_
        refine lv_iload_n hx hb dX2_cutIntoParts_43 rfl (lv_at hl 1 rfl) ?_
        refine lv_iload_n hx hb dX2_cutIntoParts_44 rfl (lv_at hl 2 rfl) ?_
        refine lv_iconst (v := 1) hx hb dX2_cutIntoParts_45 (by decide) ?_
        refine lv_isub hx hb dX2_cutIntoParts_46 ?_
        refine lv_imul hx hb dX2_cutIntoParts_47 ?_
        refine lv_isub hx hb dX2_cutIntoParts_48 ?_
        refine stI (f := cR am pt M k) (ws1 := [(q, .inl (y 0, 6, .inl (upd (cR am pt M k) k ((am - (pt * (nI M - 1)))))))]) hx hb hK hP hD hS 0 rfl k rfl hk_k (by decide) rfl dX2_cutIntoParts_49 (fun H locs hP hD hS => ?_)
        have hP : va_P G vwCl [(q, .inl (y 0, 6, .inl (cR am pt M (k + 1))))] H := by rw [cR, if_pos c_20, if_pos c_36]; exact hP
        have hD : va_D A [(q, .inl (y 0, 6, .inl (cR am pt M (k + 1))))] := by rw [cR, if_pos c_20, if_pos c_36]; exact hD
        refine lv_iinc (v := (nI (k + 1))) (lv' := [(4, .int (nI (k + 1))), (0, .int am), (1, .int pt), (2, .int (nI M)), (3, .ref q)]) hx hb dX2_cutIntoParts_50 hl (k := 4) rfl iinc1 (by decide) rfl (fun ls hl => ?_)
        refine lv_goto (tgt := 8) hx hb dX2_cutIntoParts_53 (by decide) ?_
        exact ih_k _ _ ls hP hD hS (lv_sub hl [1, 2, 3, 4, 0] rfl)
    · refine lv_aload_n hx hb dX2_cutIntoParts_23 rfl (lv_at hl 3 rfl) ?_
      refine lv_iload hx hb dX2_cutIntoParts_24 (lv_at hl 4 rfl) ?_
      refine lv_iload_n hx hb dX2_cutIntoParts_26 rfl (lv_at hl 1 rfl) ?_
      refine stI (f := cR am pt M k) (ws1 := [(q, .inl (y 0, 6, .inl (upd (cR am pt M k) k (pt))))]) hx hb hK hP hD hS 0 rfl k rfl hk_k (by decide) rfl dX2_cutIntoParts_27 (fun H locs hP hD hS => ?_)
      refine lv_goto (tgt := 50) hx hb dX2_cutIntoParts_28 (by decide) ?_
      have hP : va_P G vwCl [(q, .inl (y 0, 6, .inl (cR am pt M (k + 1))))] H := by rw [cR, if_neg c_20]; exact hP
      have hD : va_D A [(q, .inl (y 0, 6, .inl (cR am pt M (k + 1))))] := by rw [cR, if_neg c_20]; exact hD
      refine lv_iinc (v := (nI (k + 1))) (lv' := [(4, .int (nI (k + 1))), (0, .int am), (1, .int pt), (2, .int (nI M)), (3, .ref q)]) hx hb dX2_cutIntoParts_50 hl (k := 4) rfl iinc1 (by decide) rfl (fun ls hl => ?_)
      refine lv_goto (tgt := 8) hx hb dX2_cutIntoParts_53 (by decide) ?_
      exact ih_k _ _ ls hP hD hS (lv_sub hl [1, 2, 3, 4, 0] rfl)
  · have hl : lv_has ls 5 [(0, .int am), (1, .int pt), (2, .int (nI M)), (3, .ref q), (4, .int (nI 6))] := hl
    have hP : va_P G vwCl ([(q, .inl (y 0, 6, .inl (cR am pt M 6)))]) H := hP
    have hD : va_D A ([(q, .inl (y 0, 6, .inl (cR am pt M 6)))]) := hD
    refine lv_iload hx hb dX2_cutIntoParts_8 (lv_at hl 4 rfl) ?_
    refine lv_bipush (v := 6) hx hb dX2_cutIntoParts_10 (by decide) ?_
    refine lv_icmp_ge (tgt := 56) hx hb dX2_cutIntoParts_12 (by decide) (fun c_12 => ?_) (fun c_12 => absurd (nI_le (Nat.le_refl 6) (by decide)) c_12)
    refine lv_aload_n hx hb dX2_cutIntoParts_56 rfl (lv_at hl 3 rfl) ?_
    exact W.aret (v := .ref q) hx hb hr (Or.inr ⟨_, rfl⟩) (Or.inr ⟨q, rfl⟩) (fun t ht hW => ⟨⟨q, rfl, trivial, by rw [ht]; exact hP, hD⟩, hS.F ht⟩) hS.2.2 dX2_cutIntoParts_57
set_option maxHeartbeats 4000000 in
set_option maxRecDepth 100000 in
theorem c_X2_lend (l : Launch) (hlt : l.stackTraces = false) (G : va_G) (y : Nat → ClassId) (a : Nat → Nat) (b : MS) (n : Nat) (la : Nat → Nat → Nat) (L : LNS) (sz : Nat) (br pr am rt mo op : Int32) (hn : b 13 6 = nI n) (hn24 : n ≤ 24) (hop : op = 0 ∨ op = 1) : vx_Met l yX2_lend wsX2_lend ({ frames := 6, cells := 3, slots := 20, locals := 82 }) (xP G y [.ref (a 13), .int br, .int pr, .int am, .int rt, .int mo, .int op] (bkW y a b n la L) sz) (mQ G (fun _ : Nat → Nat => some (.int (nI n))) (fun _ => (xLend n br pr am rt mo) = 0) (fun u => bkW y a (u2 b 13 6 (nI (n + 1))) (n + 1) (fun i j => if i = n then u j else la i j) (fun i => if i = n then lNew br pr rt op (bOr b op) (cR am (am / mo) (cn mo) 6) (b 0) else L i)) (va_A (bkW y a b n la L) sz)) (xX G (fun E => E = exN (xLend n br pr am rt mo) ∧ ¬ (xLend n br pr am rt mo) = 0) (bkW y a b n la L) (va_A (bkW y a b n la L) sz)) 3 20 (va_A (bkW y a b n la L) sz) := by
  refine vx_ofW (cc := cX2_lend) (maxL := 10) (ret := (some .int)) (by decide) rfl ?_
  intro p e s m args below meth c s₁ B hml hout hv
  obtain ⟨rfl, hsz, hP, hK, hD0, hZ⟩ := hv
  have hx := B.exec
  have hb := B.bytes
  have hr := B.returns
  have hts := atoms_spec (ws := wsX2_lend) B.pre
  have hown : s.vm.findClass RX2 = some m.cls := findClass_of_methodNamed B.named
  have hlocks := B.notSynchronized
  subst hsz
  have hD := hD0.self (sz := s.heap.size)
  generalize hAe : va_A (bkW y a b n la L) s.heap.size = A at hD hZ ⊢
  have hA : ∀ q : Nat, s.heap.size ≤ q → A q := fun q h => by rw [← hAe]; exact Or.inr h
  have hS : va_S A s.heap s.heap [] := va_S.rf
  have hP : va_P G vwCl (bkW y a b n la L) s.heap := hP
  have hl := lv_entry ([.ref (a 13), .int br, .int pr, .int am, .int rt, .int mo, .int op]) (n := 10) (Nat.le_of_ble_eq_true rfl)
  rw [lg_entry_eq]
  generalize (lg_sl ([.ref (a 13), .int br, .int pr, .int am, .int rt, .int mo, .int op]) ++ List.replicate (10 - (lg_sl ([.ref (a 13), .int br, .int pr, .int am, .int rt, .int mo, .int op])).length) Slot.unset).toArray = ls at hl ⊢
  have hin0 : ∀ w ∈ wsX00, w ∈ wsX2_lend := by decide +kernel
  have hin2 : ∀ w ∈ wsX20, w ∈ wsX2_lend := by decide +kernel
  have hl : lv_has ls 10 [(0, .ref (a 13)), (1, .int br), (2, .int pr), (3, .int am), (4, .int rt), (5, .int mo), (6, .int op)] := hl
  refine lv_iload_n hx hb dX2_lend_0 rfl (lv_at hl 1 rfl) ?_
  refine lv_if_lt (tgt := 18) hx hb dX2_lend_1 (by decide) (fun c_1 => ?_) (fun c_1 => ?_)
  · have ev : (xLend n br pr am rt mo) = 1 := by unfold xLend; exact (if_pos c_1)
    obtain ⟨sa, hsa⟩ := hK.2.2.2.1 (77, "no such branch or product") (by decide +kernel)
    exact vx_throwS (names := ["java/lang/RuntimeException", "java/lang/Exception"]) (cls := "java/lang/IndexOutOfBoundsException") (text := "no such branch or product") hx hb hlt hown (by decide +kernel) (by decide +kernel) (hts (.classLink RX2 59 "java/lang/IndexOutOfBoundsException") (by decide +kernel)) (hts (.initialized "java/lang/IndexOutOfBoundsException") (by decide +kernel)) hsa (vx_hat (B := .castable "java/lang/IndexOutOfBoundsException" "java/lang/IndexOutOfBoundsException" :: twD.map Cond.declares) (fun w hw => hts w (List.mem_cons_of_mem _ (List.mem_append_left _ (List.mem_append_left _ (List.mem_append_right _ hw))))) (by decide +kernel) (hK.2.thrB (by decide +kernel))) (by decide +kernel) hZ.1 hZ.2 hS (by rw [hml]; exact hl.1) dX2_lend_18 dX2_lend_21 dX2_lend_22 dX2_lend_24 dX2_lend_27 (fun x hx => (hout x hx).elim) (Nat.le_of_ble_eq_true rfl) (Nat.le_of_ble_eq_true rfl) (Nat.le_of_ble_eq_true rfl) (Nat.le_of_ble_eq_true rfl) hlocks (fun t _ h1 h2 => ⟨(), trivial, ⟨⟨by rw [ev]; rfl, by rw [ev]; decide⟩, hP.kept (fun k q hk => h2 q.1 (hP k q hk).lt), hD⟩, ⟨h1, fun q hq _ => h2 q hq⟩⟩) t_nil (Nat.le_of_ble_eq_true rfl) (Nat.le_of_ble_eq_true rfl)
  · refine lv_iload_n hx hb dX2_lend_4 rfl (lv_at hl 1 rfl) ?_
    refine lv_iconst (v := 3) hx hb dX2_lend_5 (by decide) ?_
    refine lv_icmp_ge (tgt := 18) hx hb dX2_lend_6 (by decide) (fun c_6 => ?_) (fun c_6 => ?_)
    · have ev : (xLend n br pr am rt mo) = 1 := by unfold xLend; exact (if_neg c_1).trans ((if_pos c_6))
      obtain ⟨sa, hsa⟩ := hK.2.2.2.1 (77, "no such branch or product") (by decide +kernel)
      exact vx_throwS (names := ["java/lang/RuntimeException", "java/lang/Exception"]) (cls := "java/lang/IndexOutOfBoundsException") (text := "no such branch or product") hx hb hlt hown (by decide +kernel) (by decide +kernel) (hts (.classLink RX2 59 "java/lang/IndexOutOfBoundsException") (by decide +kernel)) (hts (.initialized "java/lang/IndexOutOfBoundsException") (by decide +kernel)) hsa (vx_hat (B := .castable "java/lang/IndexOutOfBoundsException" "java/lang/IndexOutOfBoundsException" :: twD.map Cond.declares) (fun w hw => hts w (List.mem_cons_of_mem _ (List.mem_append_left _ (List.mem_append_left _ (List.mem_append_right _ hw))))) (by decide +kernel) (hK.2.thrB (by decide +kernel))) (by decide +kernel) hZ.1 hZ.2 hS (by rw [hml]; exact hl.1) dX2_lend_18 dX2_lend_21 dX2_lend_22 dX2_lend_24 dX2_lend_27 (fun x hx => (hout x hx).elim) (Nat.le_of_ble_eq_true rfl) (Nat.le_of_ble_eq_true rfl) (Nat.le_of_ble_eq_true rfl) (Nat.le_of_ble_eq_true rfl) hlocks (fun t _ h1 h2 => ⟨(), trivial, ⟨⟨by rw [ev]; rfl, by rw [ev]; decide⟩, hP.kept (fun k q hk => h2 q.1 (hP k q hk).lt), hD⟩, ⟨h1, fun q hq _ => h2 q hq⟩⟩) t_nil (Nat.le_of_ble_eq_true rfl) (Nat.le_of_ble_eq_true rfl)
    · refine lv_iload_n hx hb dX2_lend_9 rfl (lv_at hl 2 rfl) ?_
      refine lv_if_lt (tgt := 18) hx hb dX2_lend_10 (by decide) (fun c_10 => ?_) (fun c_10 => ?_)
      · have ev : (xLend n br pr am rt mo) = 1 := by unfold xLend; exact (if_neg c_1).trans ((if_neg c_6).trans ((if_pos c_10)))
        obtain ⟨sa, hsa⟩ := hK.2.2.2.1 (77, "no such branch or product") (by decide +kernel)
        exact vx_throwS (names := ["java/lang/RuntimeException", "java/lang/Exception"]) (cls := "java/lang/IndexOutOfBoundsException") (text := "no such branch or product") hx hb hlt hown (by decide +kernel) (by decide +kernel) (hts (.classLink RX2 59 "java/lang/IndexOutOfBoundsException") (by decide +kernel)) (hts (.initialized "java/lang/IndexOutOfBoundsException") (by decide +kernel)) hsa (vx_hat (B := .castable "java/lang/IndexOutOfBoundsException" "java/lang/IndexOutOfBoundsException" :: twD.map Cond.declares) (fun w hw => hts w (List.mem_cons_of_mem _ (List.mem_append_left _ (List.mem_append_left _ (List.mem_append_right _ hw))))) (by decide +kernel) (hK.2.thrB (by decide +kernel))) (by decide +kernel) hZ.1 hZ.2 hS (by rw [hml]; exact hl.1) dX2_lend_18 dX2_lend_21 dX2_lend_22 dX2_lend_24 dX2_lend_27 (fun x hx => (hout x hx).elim) (Nat.le_of_ble_eq_true rfl) (Nat.le_of_ble_eq_true rfl) (Nat.le_of_ble_eq_true rfl) (Nat.le_of_ble_eq_true rfl) hlocks (fun t _ h1 h2 => ⟨(), trivial, ⟨⟨by rw [ev]; rfl, by rw [ev]; decide⟩, hP.kept (fun k q hk => h2 q.1 (hP k q hk).lt), hD⟩, ⟨h1, fun q hq _ => h2 q hq⟩⟩) t_nil (Nat.le_of_ble_eq_true rfl) (Nat.le_of_ble_eq_true rfl)
      · refine lv_iload_n hx hb dX2_lend_13 rfl (lv_at hl 2 rfl) ?_
        refine lv_iconst (v := 3) hx hb dX2_lend_14 (by decide) ?_
        refine lv_icmp_lt (tgt := 28) hx hb dX2_lend_15 (by decide) (fun c_15 => ?_) (fun c_15 => ?_)
        · refine lv_iload_n hx hb dX2_lend_28 rfl (lv_at hl 3 rfl) ?_
          refine lv_iconst (v := 1) hx hb dX2_lend_29 (by decide) ?_
          refine lv_icmp_lt (tgt := 39) hx hb dX2_lend_30 (by decide) (fun c_30 => ?_) (fun c_30 => ?_)
          · have ev : (xLend n br pr am rt mo) = 2 := by unfold xLend; exact (if_neg c_1).trans ((if_neg c_6).trans ((if_neg c_10).trans ((if_neg (Int32.not_le.mpr c_15)).trans ((if_pos c_30)))))
            obtain ⟨sa, hsa⟩ := hK.2.2.2.1 (80, "amount out of range") (by decide +kernel)
            exact vx_throwS (names := ["java/lang/RuntimeException", "java/lang/Exception"]) (cls := "java/lang/IllegalArgumentException") (text := "amount out of range") hx hb hlt hown (by decide +kernel) (by decide +kernel) (hts (.classLink RX2 66 "java/lang/IllegalArgumentException") (by decide +kernel)) (hts (.initialized "java/lang/IllegalArgumentException") (by decide +kernel)) hsa (vx_hat (B := .castable "java/lang/IllegalArgumentException" "java/lang/IllegalArgumentException" :: twD.map Cond.declares) (fun w hw => hts w (List.mem_cons_of_mem _ (List.mem_append_left _ (List.mem_append_right _ hw)))) (by decide +kernel) (hK.2.thrB (by decide +kernel))) (by decide +kernel) hZ.1 hZ.2 hS (by rw [hml]; exact hl.1) dX2_lend_39 dX2_lend_42 dX2_lend_43 dX2_lend_45 dX2_lend_48 (fun x hx => (hout x hx).elim) (Nat.le_of_ble_eq_true rfl) (Nat.le_of_ble_eq_true rfl) (Nat.le_of_ble_eq_true rfl) (Nat.le_of_ble_eq_true rfl) hlocks (fun t _ h1 h2 => ⟨(), trivial, ⟨⟨by rw [ev]; rfl, by rw [ev]; decide⟩, hP.kept (fun k q hk => h2 q.1 (hP k q hk).lt), hD⟩, ⟨h1, fun q hq _ => h2 q hq⟩⟩) t_nil (Nat.le_of_ble_eq_true rfl) (Nat.le_of_ble_eq_true rfl)
          · refine lv_iload_n hx hb dX2_lend_33 rfl (lv_at hl 3 rfl) ?_
            refine lv_ldc (v := 10000000) hx hb hown (hts (.constant RX2 79 10000000) (by decide +kernel)) dX2_lend_34 ?_
            refine lv_icmp_le (tgt := 49) hx hb dX2_lend_36 (by decide) (fun c_36 => ?_) (fun c_36 => ?_)
            · refine lv_iload hx hb dX2_lend_49 (lv_at hl 4 rfl) ?_
              refine lv_if_lt (tgt := 62) hx hb dX2_lend_51 (by decide) (fun c_51 => ?_) (fun c_51 => ?_)
              · have ev : (xLend n br pr am rt mo) = 2 := by unfold xLend; exact (if_neg c_1).trans ((if_neg c_6).trans ((if_neg c_10).trans ((if_neg (Int32.not_le.mpr c_15)).trans ((if_neg c_30).trans ((if_neg (Int32.not_lt.mpr c_36)).trans ((if_pos c_51)))))))
                obtain ⟨sa, hsa⟩ := hK.2.2.2.1 (68, "rate out of range") (by decide +kernel)
                exact vx_throwS (names := ["java/lang/RuntimeException", "java/lang/Exception"]) (cls := "java/lang/IllegalArgumentException") (text := "rate out of range") hx hb hlt hown (by decide +kernel) (by decide +kernel) (hts (.classLink RX2 66 "java/lang/IllegalArgumentException") (by decide +kernel)) (hts (.initialized "java/lang/IllegalArgumentException") (by decide +kernel)) hsa (vx_hat (B := .castable "java/lang/IllegalArgumentException" "java/lang/IllegalArgumentException" :: twD.map Cond.declares) (fun w hw => hts w (List.mem_cons_of_mem _ (List.mem_append_left _ (List.mem_append_right _ hw)))) (by decide +kernel) (hK.2.thrB (by decide +kernel))) (by decide +kernel) hZ.1 hZ.2 hS (by rw [hml]; exact hl.1) dX2_lend_62 dX2_lend_65 dX2_lend_66 dX2_lend_68 dX2_lend_71 (fun x hx => (hout x hx).elim) (Nat.le_of_ble_eq_true rfl) (Nat.le_of_ble_eq_true rfl) (Nat.le_of_ble_eq_true rfl) (Nat.le_of_ble_eq_true rfl) hlocks (fun t _ h1 h2 => ⟨(), trivial, ⟨⟨by rw [ev]; rfl, by rw [ev]; decide⟩, hP.kept (fun k q hk => h2 q.1 (hP k q hk).lt), hD⟩, ⟨h1, fun q hq _ => h2 q hq⟩⟩) t_nil (Nat.le_of_ble_eq_true rfl) (Nat.le_of_ble_eq_true rfl)
              · refine lv_iload hx hb dX2_lend_54 (lv_at hl 4 rfl) ?_
                refine lv_sipush (v := 5000) hx hb dX2_lend_56 (by decide) ?_
                refine lv_icmp_le (tgt := 72) hx hb dX2_lend_59 (by decide) (fun c_59 => ?_) (fun c_59 => ?_)
                · refine lv_iload hx hb dX2_lend_72 (lv_at hl 5 rfl) ?_
                  refine lv_iconst (v := 1) hx hb dX2_lend_74 (by decide) ?_
                  refine lv_icmp_lt (tgt := 85) hx hb dX2_lend_75 (by decide) (fun c_75 => ?_) (fun c_75 => ?_)
                  · have ev : (xLend n br pr am rt mo) = 2 := by unfold xLend; exact (if_neg c_1).trans ((if_neg c_6).trans ((if_neg c_10).trans ((if_neg (Int32.not_le.mpr c_15)).trans ((if_neg c_30).trans ((if_neg (Int32.not_lt.mpr c_36)).trans ((if_neg c_51).trans ((if_neg (Int32.not_lt.mpr c_59)).trans ((if_pos c_75)))))))))
                    obtain ⟨sa, hsa⟩ := hK.2.2.2.1 (82, "months out of range") (by decide +kernel)
                    exact vx_throwS (names := ["java/lang/RuntimeException", "java/lang/Exception"]) (cls := "java/lang/IllegalArgumentException") (text := "months out of range") hx hb hlt hown (by decide +kernel) (by decide +kernel) (hts (.classLink RX2 66 "java/lang/IllegalArgumentException") (by decide +kernel)) (hts (.initialized "java/lang/IllegalArgumentException") (by decide +kernel)) hsa (vx_hat (B := .castable "java/lang/IllegalArgumentException" "java/lang/IllegalArgumentException" :: twD.map Cond.declares) (fun w hw => hts w (List.mem_cons_of_mem _ (List.mem_append_left _ (List.mem_append_right _ hw)))) (by decide +kernel) (hK.2.thrB (by decide +kernel))) (by decide +kernel) hZ.1 hZ.2 hS (by rw [hml]; exact hl.1) dX2_lend_85 dX2_lend_88 dX2_lend_89 dX2_lend_91 dX2_lend_94 (fun x hx => (hout x hx).elim) (Nat.le_of_ble_eq_true rfl) (Nat.le_of_ble_eq_true rfl) (Nat.le_of_ble_eq_true rfl) (Nat.le_of_ble_eq_true rfl) hlocks (fun t _ h1 h2 => ⟨(), trivial, ⟨⟨by rw [ev]; rfl, by rw [ev]; decide⟩, hP.kept (fun k q hk => h2 q.1 (hP k q hk).lt), hD⟩, ⟨h1, fun q hq _ => h2 q hq⟩⟩) t_nil (Nat.le_of_ble_eq_true rfl) (Nat.le_of_ble_eq_true rfl)
                  · refine lv_iload hx hb dX2_lend_78 (lv_at hl 5 rfl) ?_
                    refine lv_bipush (v := 6) hx hb dX2_lend_80 (by decide) ?_
                    refine lv_icmp_le (tgt := 95) hx hb dX2_lend_82 (by decide) (fun c_82 => ?_) (fun c_82 => ?_)
                    · refine lv_aload_n hx hb dX2_lend_95 rfl (lv_at hl 0 rfl) ?_
                      refine bkG (b := b) (val := .int (b 13 6)) hx hb hts hin2 hown hK hP 6 (by decide) (hts (.fieldLink RX2 32 "FundBook" "loanCount" "I") (by decide +kernel)) rfl dX2_lend_96 ?_
                      refine lv_topE (z := nI n) (hn) ?_
                      refine lv_bipush (v := 24) hx hb dX2_lend_99 (by decide) ?_
                      refine lv_icmp_lt (tgt := 114) hx hb dX2_lend_101 (by decide) (fun c_101 => ?_) (fun c_101 => ?_)
                      · have ev : xLend n br pr am rt mo = 0 := by unfold xLend; exact (if_neg c_1).trans ((if_neg c_6).trans ((if_neg c_10).trans ((if_neg (Int32.not_le.mpr c_15)).trans ((if_neg c_30).trans ((if_neg (Int32.not_lt.mpr c_36)).trans ((if_neg c_51).trans ((if_neg (Int32.not_lt.mpr c_59)).trans ((if_neg c_75).trans ((if_neg (Int32.not_lt.mpr c_82)).trans ((if_neg (Int32.not_le.mpr c_101))))))))))))
                        have hln : n < 24 := by
                          have h9 : nI n < nI 24 := c_101
                          exact (nI_ltI (by omega) (by decide)).mp h9
                        obtain ⟨i, hi, rfl⟩ := inS c_75 (Int32.not_lt.mpr c_82)
                        refine lv_iload_n hx hb dX2_lend_114 rfl (lv_at hl 3 rfl) ?_
                        refine lv_iload_n hx hb dX2_lend_115 rfl (lv_at hl 3 rfl) ?_
                        refine lv_iload hx hb dX2_lend_116 (lv_at hl 5 rfl) ?_
                        refine lv_idiv hx hb dX2_lend_118 (nI_ne0 (by omega) (by omega)) ?_
                        refine lv_iload hx hb dX2_lend_119 (lv_at hl 5 rfl) ?_
                        have hP0 : va_P G vwCl ((bkW y a b n la L) ++ []) s.heap := by rw [List.append_nil]; exact hP
                        have hD0 : va_D A ((bkW y a b n la L) ++ []) := by rw [List.append_nil]; exact hD
                        have hFc : ∀ q, va_A [] s.heap.size q → A q := fun q h => hA q (A_nil h)
                        refine caN (va_runS (As := [.int am, .int (am / (nI (i + 1))), .int (nI (i + 1))]) (rest := []) ⟨hx, hb, hml, hown, hts⟩ (c_X2_cutIntoParts l G y am (am / (nI (i + 1))) (i + 1) s.heap.size (by omega)) (va_cwS 3 hts gX2_lend_X2_cutIntoParts rfl rfl rfl (by decide +kernel) ⟨Nat.le_of_ble_eq_true rfl, Nat.le_of_ble_eq_true rfl⟩) ⟨mP_bl, fun U hU hW => ⟨rfl, by rw [hU], vaP_nil, Kb.moved hW hK, vaD_nil⟩⟩ rfl rfl hl.1 rfl (lv_room (Nat.le_of_ble_eq_true rfl)) dX2_lend_121 ⟨Nat.le_of_ble_eq_true rfl, Nat.le_of_ble_eq_true rfl⟩) hS hFc hFc (fun q1 H locs _ hP1 hD1 hk1 hS => ?_)
                        refine W.eq (g2 := F0 m 124 ls [.ref q1]) rfl ?_
                        obtain ⟨hP, hD⟩ := joinW hP0 hD0 hk1 hP1 hD1 hFc
                        have hP : va_P G vwCl ((bkW y a b n la L) ++ [(q1, .inl (y 0, 6, .inl (cR am (am / (nI (i + 1))) (i + 1) 6)))]) H := hP
                        have hD : va_D A ((bkW y a b n la L) ++ [(q1, .inl (y 0, 6, .inl (cR am (am / (nI (i + 1))) (i + 1) 6)))]) := hD
                        refine W.widen (k := 1) (n := 6) (Nat.le_of_ble_eq_true rfl) (Nat.le_of_ble_eq_true rfl) ?_
                        refine lv_astore (lv' := [(7, .ref q1), (0, .ref (a 13)), (1, .int br), (2, .int pr), (3, .int am), (4, .int rt), (5, .int (nI (i + 1))), (6, .int op)]) hx hb dX2_lend_124 hl (by decide) rfl (fun ls hl => ?_)
                        refine lv_iload hx hb dX2_lend_126 (lv_at hl 7 rfl) ?_
                        refine lv_if_eq (tgt := 138) hx hb dX2_lend_128 (by decide) (fun c_128 => ?_) (fun c_128 => ?_)
                        · refine lv_iconst (v := 0) hx hb dX2_lend_138 (by decide) ?_
                          refine lv_topE (z := bOr b op) (by unfold bOr; exact (if_pos c_128).symm) ?_
                          refine lv_istore (lv' := [(8, .int (bOr b op)), (7, .ref q1), (0, .ref (a 13)), (1, .int br), (2, .int pr), (3, .int am), (4, .int rt), (5, .int (nI (i + 1))), (6, .int op)]) hx hb dX2_lend_139 hl (by decide) rfl (fun ls hl => ?_)
                          refine lv_aload_n hx hb dX2_lend_141 rfl (lv_at hl 2 rfl) ?_
                          refine bkG (b := b) (val := .int (b 13 6)) hx hb hts hin2 hown hK (appL hP) 6 (by decide) (hts (.fieldLink RX2 32 "FundBook" "loanCount" "I") (by decide +kernel)) rfl dX2_lend_142 ?_
                          refine lv_topE (z := nI n) (hn) ?_
                          refine lv_istore (lv' := [(9, .int (nI n)), (8, .int (bOr b op)), (7, .ref q1), (0, .ref (a 13)), (1, .int br), (2, .int pr), (3, .int am), (4, .int rt), (5, .int (nI (i + 1))), (6, .int op)]) hx hb dX2_lend_145 hl (by decide) rfl (fun ls hl => ?_)
                          refine lv_aload_n hx hb dX2_lend_147 rfl (lv_at hl 3 rfl) ?_
                          refine bkG (b := b) (val := .ref (a 5)) hx hb hts hin2 hown hK (appL hP) 5 (by decide) (hts (.fieldLink RX2 28 "FundBook" "loanRows" "[LFundBook$Loan;") (by decide +kernel)) rfl dX2_lend_148 ?_
                          refine lv_iload hx hb dX2_lend_151 (lv_at hl 0 rfl) ?_
                          refine va_new (ci := 0) (fs := lz0) (C := RX0) (T := TX0) (N := 8) hx hb hts hin0 tyX0 tyX0_ok hown (hts (.classLink RX2 26 RX0) (by decide +kernel)) (hts (.instantiable RX0 8) (by decide +kernel)) (hts (.initialized RX0) (by decide +kernel)) hK.1 hP hD hS hA rfl (fun j hj => by rcases (show j = 0 ∨ j = 1 ∨ j = 2 ∨ j = 3 ∨ j = 4 ∨ j = 5 ∨ j = 6 ∨ j = 7 by omega) with rfl | rfl | rfl | rfl | rfl | rfl | rfl | rfl <;> rfl) (Nat.le_of_ble_eq_true rfl) (Nat.le_of_ble_eq_true rfl) dX2_lend_153 (fun q0 H hP hD hS => ?_)
                          refine W.widen (k := 2) (n := 14) (Nat.le_of_ble_eq_true rfl) (Nat.le_of_ble_eq_true rfl) ?_
                          refine lv_dup hx hb dX2_lend_156 rfl ?_
                          refine lv_iload_n hx hb dX2_lend_157 rfl (lv_at hl 4 rfl) ?_
                          refine lv_iload_n hx hb dX2_lend_158 rfl (lv_at hl 5 rfl) ?_
                          refine lv_iload hx hb dX2_lend_159 (lv_at hl 7 rfl) ?_
                          refine lv_iload hx hb dX2_lend_161 (lv_at hl 9 rfl) ?_
                          refine lv_iload hx hb dX2_lend_163 (lv_at hl 1 rfl) ?_
                          refine lv_aload hx hb dX2_lend_165 (lv_at hl 2 rfl) ?_
                          refine lv_aload_n hx hb dX2_lend_167 rfl (lv_at hl 3 rfl) ?_
                          refine bkG (b := b) (val := .ref (a 0)) hx hb hts hin2 hown hK (appL (appL hP)) 0 (by decide) (hts (.fieldLink RX2 9 "FundBook" "curve" "[I") (by decide +kernel)) rfl dX2_lend_168 ?_
                          refine va_clone (own := RX2) (ad := "[I") hx hb (by rw [hml]; exact hl.1.symm) hown (hts (.methodLink RX2 93 ⟨"[I", "clone", "()Ljava/lang/Object;"⟩) (by decide +kernel)) (hts (.sameMethod "[I" "java/lang/Object" "clone" "()Ljava/lang/Object;") (by decide +kernel)) (hts (.native ⟨"java/lang/Object", "clone", "()Ljava/lang/Object;"⟩) (by decide +kernel)) (hts (.instanceMethod ⟨"java/lang/Object", "clone", "()Ljava/lang/Object;"⟩) (by decide +kernel)) (hts (.selects "[I" ⟨"[I", "clone", "()Ljava/lang/Object;"⟩ ⟨"java/lang/Object", "clone", "()Ljava/lang/Object;"⟩) (by decide +kernel)) (hK.2.2.1 ("[I", "java/lang/Cloneable") (by decide +kernel)) hK.1 hP hD hS hA 1 0 (cA := y 0) (x := (6, .inl (b 0))) (ty := .int) rfl rfl (hK.1.2 0 _ rfl).2 (va_fit (fun _ _ => rfl)) (Nat.le_of_ble_eq_true rfl) (Nat.le_of_ble_eq_true rfl) (Nat.le_of_ble_eq_true rfl) (Nat.le_of_ble_eq_true rfl) dX2_lend_171 (fun q2 H _ hP hD hS => ?_)
                          refine W.widen (k := 3) (n := 20) (Nat.le_of_ble_eq_true rfl) (Nat.le_of_ble_eq_true rfl) ?_
                          have hP := pm3P hP
                          have hD := pm3D hD
                          refine va_castA (nm := "[I") (own := RX2) hx hb hown (hts (.classLink RX2 94 "[I") (by decide +kernel)) hP ((bkW y a b n la L).length + 2) (cA := y 0) (x := (6, .inl (b 0))) (by rw [List.getElem?_append_right (by omega), Nat.add_sub_cancel_left]; rfl) (hK.1.2 0 _ rfl).2 dX2_lend_174 ?_
                          refine caM (va_runIN (host := "FundBook") (As := [.int br, .int pr, .int rt, .int op, .int (bOr b op), .ref q1, .ref q2]) (rest := [.ref q0, .int (nI n), .ref (a 5)]) ⟨hx, hb, hml, hown, hts⟩ (c_X0_init l G y ((bkW y a b n la L) ++ [(q0, .inr (0, lz0)), (q1, .inl (y 0, 6, .inl (cR am (am / (nI (i + 1))) (i + 1) 6))), (q2, .inl (y 0, 6, .inl (b 0)))]) (bkW y a b n la L).length q0 H.size pm3g br pr rt op (bOr b op) q1 q2 hop) ⟨va_cnB 7 hts gX2_lend_X0_init_n98 rfl rfl rfl (hK.nw (by decide +kernel)) (hts (.initialized RX0) (by decide +kernel)) (by decide +kernel) ⟨Nat.le_of_ble_eq_true rfl, Nat.le_of_ble_eq_true rfl⟩, rfl, hts (.instanceMethod yX0_init) (by decide +kernel)⟩ ⟨mP_bl, fun U hU hW => ⟨rfl, by rw [hU], by rw [hU]; exact hP, Kb.moved hW hK, hD.weaken (fun _ _ _ _ => trivial)⟩⟩ rfl rfl hl.1 rfl (lv_room (Nat.le_of_ble_eq_true rfl)) dX2_lend_177 ⟨Nat.le_of_ble_eq_true rfl, Nat.le_of_ble_eq_true rfl⟩) hS (freeW hD hS hA) (freeW hD hS hA) (fun _ H locs _ hP hD _ _ hS => ?_)
                          refine W.eq (g2 := F0 m 180 ls [.ref q0, .int (nI n), .ref (a 5)]) rfl ?_
                          rw [pm3s] at hP hD
                          refine va_astq (D := G) (cl := vwCl) (r := (RX0, TX0, 8)) hx hb hK.1 hP hD hS 2 2 (bkW y a b n la L).length 0 (cA := y 2) (n := 24) (f := lrF n la) (vs := [.int br, .int pr, .int rt, .int op, .int (bOr b op), .ref q1, .ref q2, .int 0]) rfl rfl pm3g rfl (vp_in_nI hln (by decide)) dX2_lend_180 (fun H locs hP hD hS => ?_)
                          rw [nI_clamp (show n < 2 ^ 31 by omega)] at hP hD
                          have hq := bk_add (y := y) (a := a) (b := b) (n := n) (la := la) (L := L) (u := u012 q0 q1 q2) (w := lNew br pr rt op (bOr b op) (cR am (am / (nI (i + 1))) (i + 1) 6) (b 0))
                          have hP : va_P G vwCl (bkW y a b (n + 1) (fun i j => if i = n then u012 q0 q1 q2 j else la i j) (fun i9 => if i9 = n then lNew br pr rt op (bOr b op) (cR am (am / (nI (i + 1))) (i + 1) 6) (b 0) else L i9)) H := by rw [← hq]; exact hP
                          have hD : va_D A (bkW y a b (n + 1) (fun i j => if i = n then u012 q0 q1 q2 j else la i j) (fun i9 => if i9 = n then lNew br pr rt op (bOr b op) (cR am (am / (nI (i + 1))) (i + 1) 6) (b 0) else L i9)) := by rw [← hq]; exact hD
                          refine lv_aload_n hx hb dX2_lend_181 rfl (lv_at hl 3 rfl) ?_
                          refine lv_iload hx hb dX2_lend_182 (lv_at hl 0 rfl) ?_
                          refine lv_iconst (v := 1) hx hb dX2_lend_184 (by decide) ?_
                          refine lv_iadd hx hb dX2_lend_185 ?_
                          refine lv_topE (z := nI (n + 1)) (nI_1 n) ?_
                          refine bkS (b := b) (x := nI (n + 1)) hx hb hts hin2 hown hK hP hD hS 6 (by decide) (hts (.fieldLink RX2 32 "FundBook" "loanCount" "I") (by decide +kernel)) dX2_lend_186 (fun H locs hP hD hS => ?_)
                          refine lv_iload hx hb dX2_lend_189 (lv_at hl 0 rfl) ?_
                          refine vx_ret ?_
                          exact W.iret (v := nI n) hx hb hr (fun t ht hW => ⟨⟨u012 q0 q1 q2, rfl, ev, by rw [ht, cnI (by omega)]; exact hP, by rw [cnI (by omega)]; exact hD⟩, hS.F ht⟩) hS.2.2 dX2_lend_191
                        · refine lv_aload_n hx hb dX2_lend_131 rfl (lv_at hl 1 rfl) ?_
                          refine bkG (b := b) (val := .int (b 13 2)) hx hb hts hin2 hown hK (appL hP) 2 (by decide) (hts (.fieldLink RX2 17 "FundBook" "optionRate" "I") (by decide +kernel)) rfl dX2_lend_132 ?_
                          refine lv_goto (tgt := 139) hx hb dX2_lend_135 (by decide) ?_
                          refine lv_topE (z := bOr b op) (by unfold bOr; exact (if_neg c_128).symm) ?_
                          refine lv_istore (lv' := [(8, .int (bOr b op)), (7, .ref q1), (0, .ref (a 13)), (1, .int br), (2, .int pr), (3, .int am), (4, .int rt), (5, .int (nI (i + 1))), (6, .int op)]) hx hb dX2_lend_139 hl (by decide) rfl (fun ls hl => ?_)
                          refine lv_aload_n hx hb dX2_lend_141 rfl (lv_at hl 2 rfl) ?_
                          refine bkG (b := b) (val := .int (b 13 6)) hx hb hts hin2 hown hK (appL hP) 6 (by decide) (hts (.fieldLink RX2 32 "FundBook" "loanCount" "I") (by decide +kernel)) rfl dX2_lend_142 ?_
                          refine lv_topE (z := nI n) (hn) ?_
                          refine lv_istore (lv' := [(9, .int (nI n)), (8, .int (bOr b op)), (7, .ref q1), (0, .ref (a 13)), (1, .int br), (2, .int pr), (3, .int am), (4, .int rt), (5, .int (nI (i + 1))), (6, .int op)]) hx hb dX2_lend_145 hl (by decide) rfl (fun ls hl => ?_)
                          refine lv_aload_n hx hb dX2_lend_147 rfl (lv_at hl 3 rfl) ?_
                          refine bkG (b := b) (val := .ref (a 5)) hx hb hts hin2 hown hK (appL hP) 5 (by decide) (hts (.fieldLink RX2 28 "FundBook" "loanRows" "[LFundBook$Loan;") (by decide +kernel)) rfl dX2_lend_148 ?_
                          refine lv_iload hx hb dX2_lend_151 (lv_at hl 0 rfl) ?_
                          refine va_new (ci := 0) (fs := lz0) (C := RX0) (T := TX0) (N := 8) hx hb hts hin0 tyX0 tyX0_ok hown (hts (.classLink RX2 26 RX0) (by decide +kernel)) (hts (.instantiable RX0 8) (by decide +kernel)) (hts (.initialized RX0) (by decide +kernel)) hK.1 hP hD hS hA rfl (fun j hj => by rcases (show j = 0 ∨ j = 1 ∨ j = 2 ∨ j = 3 ∨ j = 4 ∨ j = 5 ∨ j = 6 ∨ j = 7 by omega) with rfl | rfl | rfl | rfl | rfl | rfl | rfl | rfl <;> rfl) (Nat.le_of_ble_eq_true rfl) (Nat.le_of_ble_eq_true rfl) dX2_lend_153 (fun q0 H hP hD hS => ?_)
                          refine W.widen (k := 2) (n := 14) (Nat.le_of_ble_eq_true rfl) (Nat.le_of_ble_eq_true rfl) ?_
                          refine lv_dup hx hb dX2_lend_156 rfl ?_
                          refine lv_iload_n hx hb dX2_lend_157 rfl (lv_at hl 4 rfl) ?_
                          refine lv_iload_n hx hb dX2_lend_158 rfl (lv_at hl 5 rfl) ?_
                          refine lv_iload hx hb dX2_lend_159 (lv_at hl 7 rfl) ?_
                          refine lv_iload hx hb dX2_lend_161 (lv_at hl 9 rfl) ?_
                          refine lv_iload hx hb dX2_lend_163 (lv_at hl 1 rfl) ?_
                          refine lv_aload hx hb dX2_lend_165 (lv_at hl 2 rfl) ?_
                          refine lv_aload_n hx hb dX2_lend_167 rfl (lv_at hl 3 rfl) ?_
                          refine bkG (b := b) (val := .ref (a 0)) hx hb hts hin2 hown hK (appL (appL hP)) 0 (by decide) (hts (.fieldLink RX2 9 "FundBook" "curve" "[I") (by decide +kernel)) rfl dX2_lend_168 ?_
                          refine va_clone (own := RX2) (ad := "[I") hx hb (by rw [hml]; exact hl.1.symm) hown (hts (.methodLink RX2 93 ⟨"[I", "clone", "()Ljava/lang/Object;"⟩) (by decide +kernel)) (hts (.sameMethod "[I" "java/lang/Object" "clone" "()Ljava/lang/Object;") (by decide +kernel)) (hts (.native ⟨"java/lang/Object", "clone", "()Ljava/lang/Object;"⟩) (by decide +kernel)) (hts (.instanceMethod ⟨"java/lang/Object", "clone", "()Ljava/lang/Object;"⟩) (by decide +kernel)) (hts (.selects "[I" ⟨"[I", "clone", "()Ljava/lang/Object;"⟩ ⟨"java/lang/Object", "clone", "()Ljava/lang/Object;"⟩) (by decide +kernel)) (hK.2.2.1 ("[I", "java/lang/Cloneable") (by decide +kernel)) hK.1 hP hD hS hA 1 0 (cA := y 0) (x := (6, .inl (b 0))) (ty := .int) rfl rfl (hK.1.2 0 _ rfl).2 (va_fit (fun _ _ => rfl)) (Nat.le_of_ble_eq_true rfl) (Nat.le_of_ble_eq_true rfl) (Nat.le_of_ble_eq_true rfl) (Nat.le_of_ble_eq_true rfl) dX2_lend_171 (fun q2 H _ hP hD hS => ?_)
                          refine W.widen (k := 3) (n := 20) (Nat.le_of_ble_eq_true rfl) (Nat.le_of_ble_eq_true rfl) ?_
                          have hP := pm3P hP
                          have hD := pm3D hD
                          refine va_castA (nm := "[I") (own := RX2) hx hb hown (hts (.classLink RX2 94 "[I") (by decide +kernel)) hP ((bkW y a b n la L).length + 2) (cA := y 0) (x := (6, .inl (b 0))) (by rw [List.getElem?_append_right (by omega), Nat.add_sub_cancel_left]; rfl) (hK.1.2 0 _ rfl).2 dX2_lend_174 ?_
                          refine caM (va_runIN (host := "FundBook") (As := [.int br, .int pr, .int rt, .int op, .int (bOr b op), .ref q1, .ref q2]) (rest := [.ref q0, .int (nI n), .ref (a 5)]) ⟨hx, hb, hml, hown, hts⟩ (c_X0_init l G y ((bkW y a b n la L) ++ [(q0, .inr (0, lz0)), (q1, .inl (y 0, 6, .inl (cR am (am / (nI (i + 1))) (i + 1) 6))), (q2, .inl (y 0, 6, .inl (b 0)))]) (bkW y a b n la L).length q0 H.size pm3g br pr rt op (bOr b op) q1 q2 hop) ⟨va_cnB 7 hts gX2_lend_X0_init_n98 rfl rfl rfl (hK.nw (by decide +kernel)) (hts (.initialized RX0) (by decide +kernel)) (by decide +kernel) ⟨Nat.le_of_ble_eq_true rfl, Nat.le_of_ble_eq_true rfl⟩, rfl, hts (.instanceMethod yX0_init) (by decide +kernel)⟩ ⟨mP_bl, fun U hU hW => ⟨rfl, by rw [hU], by rw [hU]; exact hP, Kb.moved hW hK, hD.weaken (fun _ _ _ _ => trivial)⟩⟩ rfl rfl hl.1 rfl (lv_room (Nat.le_of_ble_eq_true rfl)) dX2_lend_177 ⟨Nat.le_of_ble_eq_true rfl, Nat.le_of_ble_eq_true rfl⟩) hS (freeW hD hS hA) (freeW hD hS hA) (fun _ H locs _ hP hD _ _ hS => ?_)
                          refine W.eq (g2 := F0 m 180 ls [.ref q0, .int (nI n), .ref (a 5)]) rfl ?_
                          rw [pm3s] at hP hD
                          refine va_astq (D := G) (cl := vwCl) (r := (RX0, TX0, 8)) hx hb hK.1 hP hD hS 2 2 (bkW y a b n la L).length 0 (cA := y 2) (n := 24) (f := lrF n la) (vs := [.int br, .int pr, .int rt, .int op, .int (bOr b op), .ref q1, .ref q2, .int 0]) rfl rfl pm3g rfl (vp_in_nI hln (by decide)) dX2_lend_180 (fun H locs hP hD hS => ?_)
                          rw [nI_clamp (show n < 2 ^ 31 by omega)] at hP hD
                          have hq := bk_add (y := y) (a := a) (b := b) (n := n) (la := la) (L := L) (u := u012 q0 q1 q2) (w := lNew br pr rt op (bOr b op) (cR am (am / (nI (i + 1))) (i + 1) 6) (b 0))
                          have hP : va_P G vwCl (bkW y a b (n + 1) (fun i j => if i = n then u012 q0 q1 q2 j else la i j) (fun i9 => if i9 = n then lNew br pr rt op (bOr b op) (cR am (am / (nI (i + 1))) (i + 1) 6) (b 0) else L i9)) H := by rw [← hq]; exact hP
                          have hD : va_D A (bkW y a b (n + 1) (fun i j => if i = n then u012 q0 q1 q2 j else la i j) (fun i9 => if i9 = n then lNew br pr rt op (bOr b op) (cR am (am / (nI (i + 1))) (i + 1) 6) (b 0) else L i9)) := by rw [← hq]; exact hD
                          refine lv_aload_n hx hb dX2_lend_181 rfl (lv_at hl 3 rfl) ?_
                          refine lv_iload hx hb dX2_lend_182 (lv_at hl 0 rfl) ?_
                          refine lv_iconst (v := 1) hx hb dX2_lend_184 (by decide) ?_
                          refine lv_iadd hx hb dX2_lend_185 ?_
                          refine lv_topE (z := nI (n + 1)) (nI_1 n) ?_
                          refine bkS (b := b) (x := nI (n + 1)) hx hb hts hin2 hown hK hP hD hS 6 (by decide) (hts (.fieldLink RX2 32 "FundBook" "loanCount" "I") (by decide +kernel)) dX2_lend_186 (fun H locs hP hD hS => ?_)
                          refine lv_iload hx hb dX2_lend_189 (lv_at hl 0 rfl) ?_
                          refine vx_ret ?_
                          exact W.iret (v := nI n) hx hb hr (fun t ht hW => ⟨⟨u012 q0 q1 q2, rfl, ev, by rw [ht, cnI (by omega)]; exact hP, by rw [cnI (by omega)]; exact hD⟩, hS.F ht⟩) hS.2.2 dX2_lend_191
                      · have ev : (xLend n br pr am rt mo) = 3 := by unfold xLend; exact (if_neg c_1).trans ((if_neg c_6).trans ((if_neg c_10).trans ((if_neg (Int32.not_le.mpr c_15)).trans ((if_neg c_30).trans ((if_neg (Int32.not_lt.mpr c_36)).trans ((if_neg c_51).trans ((if_neg (Int32.not_lt.mpr c_59)).trans ((if_neg c_75).trans ((if_neg (Int32.not_lt.mpr c_82)).trans ((if_pos (Int32.not_lt.mp c_101))))))))))))
                        obtain ⟨sa, hsa⟩ := hK.2.2.2.1 (86, "there are 24 loans") (by decide +kernel)
                        exact vx_throwS (names := ["java/lang/RuntimeException", "java/lang/Exception"]) (cls := "java/lang/IllegalStateException") (text := "there are 24 loans") hx hb hlt hown (by decide +kernel) (by decide +kernel) (hts (.classLink RX2 84 "java/lang/IllegalStateException") (by decide +kernel)) (hts (.initialized "java/lang/IllegalStateException") (by decide +kernel)) hsa (vx_hat (B := .castable "java/lang/IllegalStateException" "java/lang/IllegalStateException" :: twD.map Cond.declares) (fun w hw => hts w (List.mem_cons_of_mem _ (List.mem_append_right _ hw))) (by decide +kernel) (hK.2.thrB (by decide +kernel))) (by decide +kernel) hZ.1 hZ.2 hS (by rw [hml]; exact hl.1) dX2_lend_104 dX2_lend_107 dX2_lend_108 dX2_lend_110 dX2_lend_113 (fun x hx => (hout x hx).elim) (Nat.le_of_ble_eq_true rfl) (Nat.le_of_ble_eq_true rfl) (Nat.le_of_ble_eq_true rfl) (Nat.le_of_ble_eq_true rfl) hlocks (fun t _ h1 h2 => ⟨(), trivial, ⟨⟨by rw [ev]; rfl, by rw [ev]; decide⟩, hP.kept (fun k q hk => h2 q.1 (hP k q hk).lt), hD⟩, ⟨h1, fun q hq _ => h2 q hq⟩⟩) t_nil (Nat.le_of_ble_eq_true rfl) (Nat.le_of_ble_eq_true rfl)
                    · have ev : (xLend n br pr am rt mo) = 2 := by unfold xLend; exact (if_neg c_1).trans ((if_neg c_6).trans ((if_neg c_10).trans ((if_neg (Int32.not_le.mpr c_15)).trans ((if_neg c_30).trans ((if_neg (Int32.not_lt.mpr c_36)).trans ((if_neg c_51).trans ((if_neg (Int32.not_lt.mpr c_59)).trans ((if_neg c_75).trans ((if_pos (Int32.not_le.mp c_82)))))))))))
                      obtain ⟨sa, hsa⟩ := hK.2.2.2.1 (82, "months out of range") (by decide +kernel)
                      exact vx_throwS (names := ["java/lang/RuntimeException", "java/lang/Exception"]) (cls := "java/lang/IllegalArgumentException") (text := "months out of range") hx hb hlt hown (by decide +kernel) (by decide +kernel) (hts (.classLink RX2 66 "java/lang/IllegalArgumentException") (by decide +kernel)) (hts (.initialized "java/lang/IllegalArgumentException") (by decide +kernel)) hsa (vx_hat (B := .castable "java/lang/IllegalArgumentException" "java/lang/IllegalArgumentException" :: twD.map Cond.declares) (fun w hw => hts w (List.mem_cons_of_mem _ (List.mem_append_left _ (List.mem_append_right _ hw)))) (by decide +kernel) (hK.2.thrB (by decide +kernel))) (by decide +kernel) hZ.1 hZ.2 hS (by rw [hml]; exact hl.1) dX2_lend_85 dX2_lend_88 dX2_lend_89 dX2_lend_91 dX2_lend_94 (fun x hx => (hout x hx).elim) (Nat.le_of_ble_eq_true rfl) (Nat.le_of_ble_eq_true rfl) (Nat.le_of_ble_eq_true rfl) (Nat.le_of_ble_eq_true rfl) hlocks (fun t _ h1 h2 => ⟨(), trivial, ⟨⟨by rw [ev]; rfl, by rw [ev]; decide⟩, hP.kept (fun k q hk => h2 q.1 (hP k q hk).lt), hD⟩, ⟨h1, fun q hq _ => h2 q hq⟩⟩) t_nil (Nat.le_of_ble_eq_true rfl) (Nat.le_of_ble_eq_true rfl)
                · have ev : (xLend n br pr am rt mo) = 2 := by unfold xLend; exact (if_neg c_1).trans ((if_neg c_6).trans ((if_neg c_10).trans ((if_neg (Int32.not_le.mpr c_15)).trans ((if_neg c_30).trans ((if_neg (Int32.not_lt.mpr c_36)).trans ((if_neg c_51).trans ((if_pos (Int32.not_le.mp c_59)))))))))
                  obtain ⟨sa, hsa⟩ := hK.2.2.2.1 (68, "rate out of range") (by decide +kernel)
                  exact vx_throwS (names := ["java/lang/RuntimeException", "java/lang/Exception"]) (cls := "java/lang/IllegalArgumentException") (text := "rate out of range") hx hb hlt hown (by decide +kernel) (by decide +kernel) (hts (.classLink RX2 66 "java/lang/IllegalArgumentException") (by decide +kernel)) (hts (.initialized "java/lang/IllegalArgumentException") (by decide +kernel)) hsa (vx_hat (B := .castable "java/lang/IllegalArgumentException" "java/lang/IllegalArgumentException" :: twD.map Cond.declares) (fun w hw => hts w (List.mem_cons_of_mem _ (List.mem_append_left _ (List.mem_append_right _ hw)))) (by decide +kernel) (hK.2.thrB (by decide +kernel))) (by decide +kernel) hZ.1 hZ.2 hS (by rw [hml]; exact hl.1) dX2_lend_62 dX2_lend_65 dX2_lend_66 dX2_lend_68 dX2_lend_71 (fun x hx => (hout x hx).elim) (Nat.le_of_ble_eq_true rfl) (Nat.le_of_ble_eq_true rfl) (Nat.le_of_ble_eq_true rfl) (Nat.le_of_ble_eq_true rfl) hlocks (fun t _ h1 h2 => ⟨(), trivial, ⟨⟨by rw [ev]; rfl, by rw [ev]; decide⟩, hP.kept (fun k q hk => h2 q.1 (hP k q hk).lt), hD⟩, ⟨h1, fun q hq _ => h2 q hq⟩⟩) t_nil (Nat.le_of_ble_eq_true rfl) (Nat.le_of_ble_eq_true rfl)
            · have ev : (xLend n br pr am rt mo) = 2 := by unfold xLend; exact (if_neg c_1).trans ((if_neg c_6).trans ((if_neg c_10).trans ((if_neg (Int32.not_le.mpr c_15)).trans ((if_neg c_30).trans ((if_pos (Int32.not_le.mp c_36)))))))
              obtain ⟨sa, hsa⟩ := hK.2.2.2.1 (80, "amount out of range") (by decide +kernel)
              exact vx_throwS (names := ["java/lang/RuntimeException", "java/lang/Exception"]) (cls := "java/lang/IllegalArgumentException") (text := "amount out of range") hx hb hlt hown (by decide +kernel) (by decide +kernel) (hts (.classLink RX2 66 "java/lang/IllegalArgumentException") (by decide +kernel)) (hts (.initialized "java/lang/IllegalArgumentException") (by decide +kernel)) hsa (vx_hat (B := .castable "java/lang/IllegalArgumentException" "java/lang/IllegalArgumentException" :: twD.map Cond.declares) (fun w hw => hts w (List.mem_cons_of_mem _ (List.mem_append_left _ (List.mem_append_right _ hw)))) (by decide +kernel) (hK.2.thrB (by decide +kernel))) (by decide +kernel) hZ.1 hZ.2 hS (by rw [hml]; exact hl.1) dX2_lend_39 dX2_lend_42 dX2_lend_43 dX2_lend_45 dX2_lend_48 (fun x hx => (hout x hx).elim) (Nat.le_of_ble_eq_true rfl) (Nat.le_of_ble_eq_true rfl) (Nat.le_of_ble_eq_true rfl) (Nat.le_of_ble_eq_true rfl) hlocks (fun t _ h1 h2 => ⟨(), trivial, ⟨⟨by rw [ev]; rfl, by rw [ev]; decide⟩, hP.kept (fun k q hk => h2 q.1 (hP k q hk).lt), hD⟩, ⟨h1, fun q hq _ => h2 q hq⟩⟩) t_nil (Nat.le_of_ble_eq_true rfl) (Nat.le_of_ble_eq_true rfl)
        · have ev : (xLend n br pr am rt mo) = 1 := by unfold xLend; exact (if_neg c_1).trans ((if_neg c_6).trans ((if_neg c_10).trans ((if_pos (Int32.not_lt.mp c_15)))))
          obtain ⟨sa, hsa⟩ := hK.2.2.2.1 (77, "no such branch or product") (by decide +kernel)
          exact vx_throwS (names := ["java/lang/RuntimeException", "java/lang/Exception"]) (cls := "java/lang/IndexOutOfBoundsException") (text := "no such branch or product") hx hb hlt hown (by decide +kernel) (by decide +kernel) (hts (.classLink RX2 59 "java/lang/IndexOutOfBoundsException") (by decide +kernel)) (hts (.initialized "java/lang/IndexOutOfBoundsException") (by decide +kernel)) hsa (vx_hat (B := .castable "java/lang/IndexOutOfBoundsException" "java/lang/IndexOutOfBoundsException" :: twD.map Cond.declares) (fun w hw => hts w (List.mem_cons_of_mem _ (List.mem_append_left _ (List.mem_append_left _ (List.mem_append_right _ hw))))) (by decide +kernel) (hK.2.thrB (by decide +kernel))) (by decide +kernel) hZ.1 hZ.2 hS (by rw [hml]; exact hl.1) dX2_lend_18 dX2_lend_21 dX2_lend_22 dX2_lend_24 dX2_lend_27 (fun x hx => (hout x hx).elim) (Nat.le_of_ble_eq_true rfl) (Nat.le_of_ble_eq_true rfl) (Nat.le_of_ble_eq_true rfl) (Nat.le_of_ble_eq_true rfl) hlocks (fun t _ h1 h2 => ⟨(), trivial, ⟨⟨by rw [ev]; rfl, by rw [ev]; decide⟩, hP.kept (fun k q hk => h2 q.1 (hP k q hk).lt), hD⟩, ⟨h1, fun q hq _ => h2 q hq⟩⟩) t_nil (Nat.le_of_ble_eq_true rfl) (Nat.le_of_ble_eq_true rfl)
end
section
/-! ===== the constructors (printed by a program of mine) ===== -/
theorem freeR {A : Nat → Prop} {wr wc : va_W} {H0 H : Heap} {locs : List Loc} (hD : va_D A (wr ++ wc)) (hS : va_S A H0 H locs) (hA : ∀ q, H0.size ≤ q → A q) : ∀ q, va_A wc H.size q → A q := by
  intro q h
  rcases h with ⟨k, e, h⟩ | h
  · exact hD.2 (wr.length + k) (q, e) (by rw [List.getElem?_append_right (Nat.le_add_right _ _), Nat.add_sub_cancel_left]; exact h)
  · exact hA q (Nat.le_trans hS.1 h)
def b00 : MS := u2 (fun _ _ => 0) 13 3 50
/-- a start that knows the arrays over loans and over rows, too -/
def oP (G : va_G) (y : Nat → ClassId) (av : List Value) (ws : va_W) (sz : Nat) : Array Value → State → Prop := va_Pc av (fun U => (U.heap.size = sz ∧ va_P G vwCl ws U.heap ∧ Kb G y U ∧ va_D (fun _ => True) ws) ∧ va_AO RX0 U ∧ va_AOA .int U)
set_option maxHeartbeats 4000000 in
set_option maxRecDepth 100000 in
theorem c_X1_init (l : Launch) (G : va_G) (y : Nat → ClassId) (h0 sz : Nat)  : Met l yX1_init wsX1_init ({ frames := 1, cells := 2, slots := 12, locals := 12 }) (mP G y [.ref h0] [(h0, .inr (1, [.null, .null]))] sz) (mQ G (fun _ : Nat × Nat => none) (fun _ => True) (fun u => [(h0, .inr (1, [.ref u.1, .ref u.2])), (u.1, .inl (y 0, 6, .inl (fun _ => 0))), (u.2, .inl (y 0, 6, .inl (fun _ => 0)))]) (va_A [(h0, .inr (1, [.null, .null]))] sz)) 2 12 (va_A [(h0, .inr (1, [.null, .null]))] sz) := by
  refine Met.ofW (cc := cX1_init) (maxL := 1) (ret := none) (by decide) rfl ?_
  intro p e s m args below meth c s₁ B hml hv
  obtain ⟨rfl, hsz, hP, hK, hD0⟩ := hv
  have hx := B.exec
  have hb := B.bytes
  have hr := B.returns
  have hts := atoms_spec (ws := wsX1_init) B.pre
  have hown : s.vm.findClass RX1 = some m.cls := findClass_of_methodNamed B.named
  have hlocks := B.notSynchronized
  subst hsz
  have hD := hD0.self (sz := s.heap.size)
  generalize hAe : va_A ([(h0, .inr (1, [.null, .null]))]) s.heap.size = A at hD ⊢
  have hA : ∀ q : Nat, s.heap.size ≤ q → A q := fun q h => by rw [← hAe]; exact Or.inr h
  have hS : va_S A s.heap s.heap [] := va_S.rf
  have hP : va_P G vwCl ([(h0, .inr (1, [.null, .null]))]) s.heap := hP
  have hl := lv_entry ([.ref h0]) (n := 1) (Nat.le_of_ble_eq_true rfl)
  rw [lg_entry_eq]
  generalize (lg_sl ([.ref h0]) ++ List.replicate (1 - (lg_sl ([.ref h0])).length) Slot.unset).toArray = ls at hl ⊢
  have hin1 : ∀ w ∈ wsX10, w ∈ wsX1_init := by decide +kernel
  have hl : lv_has ls 1 [(0, .ref h0)] := hl
  have hin : meth.name = "<init>" := (name_of_methodNamed B.named B.method).1
  refine lv_aload_n hx hb dX1_init_0 rfl (lv_at hl 0 rfl) ?_
  refine W.objInit hx hb hown (hts (.methodLink RX1 3 objectInit) (by decide +kernel)) (hts (.instanceMethod objectInit) (by decide +kernel)) (hts (.code objectInit ⟨#[0xb1]⟩ 1 none) (by decide +kernel)) rfl (by rw [hml]; exact hl.1) rfl dX1_init_1 (Nat.le_of_ble_eq_true rfl) (Nat.le_of_ble_eq_true rfl) ?_
  refine W.eq (g2 := F0 m 4 ls []) rfl ?_
  refine lv_aload_n hx hb dX1_init_4 rfl (lv_at hl 0 rfl) ?_
  refine lv_bipush (v := 6) hx hb dX1_init_5 (by decide) ?_
  refine nwI (N := 6) hx hb (hts (.arrayClass .int) (by decide +kernel)) hK hP hD hS hA rfl (by decide) (Nat.le_of_ble_eq_true rfl) (Nat.le_of_ble_eq_true rfl) dX1_init_7 (fun q1 H hP hD hS => ?_)
  have hP : va_P G vwCl [(h0, .inr (1, [.null, .null])), (q1, .inl (y 0, 6, .inl (fun _ => 0)))] H := hP
  have hD : va_D A [(h0, .inr (1, [.null, .null])), (q1, .inl (y 0, 6, .inl (fun _ => 0)))] := hD
  refine W.widen (k := 1) (n := 6) (Nat.le_of_ble_eq_true rfl) (Nat.le_of_ble_eq_true rfl) ?_
  refine va_putF (D := G) (ci := 1) (v := .ref q1) (ty := (tyX1 0)) (C := RX1) (T := TX1) (N := 2) hx hb hts hin1 tyX1 tyX1_ok nmX1 hown hK.1 hP hD hS 0 rfl rfl 0 (by decide) (hts (.fieldLink RX1 9 "FundBook$Replica" "amounts" "[I") (by decide +kernel)) (fun _ h9 => h9) rfl hin rfl (by decide +kernel) rfl rfl (Nat.le_of_ble_eq_true rfl) dX1_init_9 (fun H locs hP hD hS => ?_)
  have hP : va_P G vwCl [(h0, .inr (1, [.ref q1, .null])), (q1, .inl (y 0, 6, .inl (fun _ => 0)))] H := hP
  have hD : va_D A [(h0, .inr (1, [.ref q1, .null])), (q1, .inl (y 0, 6, .inl (fun _ => 0)))] := hD
  refine lv_aload_n hx hb dX1_init_12 rfl (lv_at hl 0 rfl) ?_
  refine lv_bipush (v := 6) hx hb dX1_init_13 (by decide) ?_
  refine nwI (N := 6) hx hb (hts (.arrayClass .int) (by decide +kernel)) hK hP hD hS hA rfl (by decide) (Nat.le_of_ble_eq_true rfl) (Nat.le_of_ble_eq_true rfl) dX1_init_15 (fun q2 H hP hD hS => ?_)
  have hP : va_P G vwCl [(h0, .inr (1, [.ref q1, .null])), (q1, .inl (y 0, 6, .inl (fun _ => 0))), (q2, .inl (y 0, 6, .inl (fun _ => 0)))] H := hP
  have hD : va_D A [(h0, .inr (1, [.ref q1, .null])), (q1, .inl (y 0, 6, .inl (fun _ => 0))), (q2, .inl (y 0, 6, .inl (fun _ => 0)))] := hD
  refine W.widen (k := 2) (n := 12) (Nat.le_of_ble_eq_true rfl) (Nat.le_of_ble_eq_true rfl) ?_
  refine va_putF (D := G) (ci := 1) (v := .ref q2) (ty := (tyX1 1)) (C := RX1) (T := TX1) (N := 2) hx hb hts hin1 tyX1 tyX1_ok nmX1 hown hK.1 hP hD hS 0 rfl rfl 1 (by decide) (hts (.fieldLink RX1 15 "FundBook$Replica" "rates" "[I") (by decide +kernel)) (fun _ h9 => h9) rfl hin rfl (by decide +kernel) rfl rfl (Nat.le_of_ble_eq_true rfl) dX1_init_17 (fun H locs hP hD hS => ?_)
  have hP : va_P G vwCl [(h0, .inr (1, [.ref q1, .ref q2])), (q1, .inl (y 0, 6, .inl (fun _ => 0))), (q2, .inl (y 0, 6, .inl (fun _ => 0)))] H := hP
  have hD : va_D A [(h0, .inr (1, [.ref q1, .ref q2])), (q1, .inl (y 0, 6, .inl (fun _ => 0))), (q2, .inl (y 0, 6, .inl (fun _ => 0)))] := hD
  exact W.vret hx hb hr (fun t ht hW => ⟨⟨(q1, q2), rfl, trivial, by rw [ht]; exact hP, hD⟩, hS.F ht⟩) hS.2.2 dX1_init_20
set_option maxHeartbeats 4000000 in
set_option maxRecDepth 100000 in
theorem c_X2_init (l : Launch) (G : va_G) (y : Nat → ClassId) (h0 sz : Nat) (la : Nat → Nat → Nat) (L : LNS) : Met l yX2_init wsX2_init ({ frames := 2, cells := 16, slots := 429, locals := 32 }) (oP G y [.ref h0] [(h0, .inr (2, [.null, .int 0, .int 0, .int 0, .int 0, .null, .int 0, .null, .null, .null, .null, .null, .null]))] sz) (mQ G (fun _ : Nat → Nat => none) (fun a => a 13 = h0) (fun a => bkW y a b00 0 la L) (va_A [(h0, .inr (2, [.null, .int 0, .int 0, .int 0, .int 0, .null, .int 0, .null, .null, .null, .null, .null, .null]))] sz)) 16 429 (va_A [(h0, .inr (2, [.null, .int 0, .int 0, .int 0, .int 0, .null, .int 0, .null, .null, .null, .null, .null, .null]))] sz) := by
  refine Met.ofW (cc := cX2_init) (maxL := 1) (ret := none) (by decide) rfl ?_
  intro p e s m args below meth c s₁ B hml hv
  obtain ⟨rfl, ⟨hsz, hP, hK, hD0⟩, hOa, hOb⟩ := hv
  have hx := B.exec
  have hb := B.bytes
  have hr := B.returns
  have hts := atoms_spec (ws := wsX2_init) B.pre
  have hown : s.vm.findClass RX2 = some m.cls := findClass_of_methodNamed B.named
  have hlocks := B.notSynchronized
  subst hsz
  have hD := hD0.self (sz := s.heap.size)
  generalize hAe : va_A ([(h0, .inr (2, [.null, .int 0, .int 0, .int 0, .int 0, .null, .int 0, .null, .null, .null, .null, .null, .null]))]) s.heap.size = A at hD ⊢
  have hA : ∀ q : Nat, s.heap.size ≤ q → A q := fun q h => by rw [← hAe]; exact Or.inr h
  have hS : va_S A s.heap s.heap [] := va_S.rf
  have hP : va_P G vwCl ([(h0, .inr (2, [.null, .int 0, .int 0, .int 0, .int 0, .null, .int 0, .null, .null, .null, .null, .null, .null]))]) s.heap := hP
  have hl := lv_entry ([.ref h0]) (n := 1) (Nat.le_of_ble_eq_true rfl)
  rw [lg_entry_eq]
  generalize (lg_sl ([.ref h0]) ++ List.replicate (1 - (lg_sl ([.ref h0])).length) Slot.unset).toArray = ls at hl ⊢
  have hin1 : ∀ w ∈ wsX10, w ∈ wsX2_init := by decide +kernel
  have hin2 : ∀ w ∈ wsX20, w ∈ wsX2_init := by decide +kernel
  have hl : lv_has ls 1 [(0, .ref h0)] := hl
  have hin : meth.name = "<init>" := (name_of_methodNamed B.named B.method).1
  refine lv_aload_n hx hb dX2_init_0 rfl (lv_at hl 0 rfl) ?_
  refine W.objInit hx hb hown (hts (.methodLink RX2 1 objectInit) (by decide +kernel)) (hts (.instanceMethod objectInit) (by decide +kernel)) (hts (.code objectInit ⟨#[0xb1]⟩ 1 none) (by decide +kernel)) rfl (by rw [hml]; exact hl.1) rfl dX2_init_1 (Nat.le_of_ble_eq_true rfl) (Nat.le_of_ble_eq_true rfl) ?_
  refine W.eq (g2 := F0 m 4 ls []) rfl ?_
  refine lv_aload_n hx hb dX2_init_4 rfl (lv_at hl 0 rfl) ?_
  refine lv_bipush (v := 6) hx hb dX2_init_5 (by decide) ?_
  refine nwI (N := 6) hx hb (hts (.arrayClass .int) (by decide +kernel)) hK hP hD hS hA rfl (by decide) (Nat.le_of_ble_eq_true rfl) (Nat.le_of_ble_eq_true rfl) dX2_init_7 (fun q1 H hP hD hS => ?_)
  have hP : va_P G vwCl [(h0, .inr (2, [.null, .int 0, .int 0, .int 0, .int 0, .null, .int 0, .null, .null, .null, .null, .null, .null])), (q1, .inl (y 0, 6, .inl (fun _ => 0)))] H := hP
  have hD : va_D A [(h0, .inr (2, [.null, .int 0, .int 0, .int 0, .int 0, .null, .int 0, .null, .null, .null, .null, .null, .null])), (q1, .inl (y 0, 6, .inl (fun _ => 0)))] := hD
  refine W.widen (k := 1) (n := 6) (Nat.le_of_ble_eq_true rfl) (Nat.le_of_ble_eq_true rfl) ?_
  refine va_putF (D := G) (ci := 2) (v := .ref q1) (ty := (tyX2 0)) (C := RX2) (T := TX2) (N := 13) hx hb hts hin2 tyX2 tyX2_ok nmX2 hown hK.1 hP hD hS 0 rfl rfl 0 (by decide) (hts (.fieldLink RX2 9 "FundBook" "curve" "[I") (by decide +kernel)) (fun _ h9 => h9) rfl hin rfl (by decide +kernel) rfl rfl (Nat.le_of_ble_eq_true rfl) dX2_init_9 (fun H locs hP hD hS => ?_)
  have hP : va_P G vwCl [(h0, .inr (2, [.ref q1, .int 0, .int 0, .int 0, .int 0, .null, .int 0, .null, .null, .null, .null, .null, .null])), (q1, .inl (y 0, 6, .inl (fun _ => 0)))] H := hP
  have hD : va_D A [(h0, .inr (2, [.ref q1, .int 0, .int 0, .int 0, .int 0, .null, .int 0, .null, .null, .null, .null, .null, .null])), (q1, .inl (y 0, 6, .inl (fun _ => 0)))] := hD
  refine lv_aload_n hx hb dX2_init_12 rfl (lv_at hl 0 rfl) ?_
  refine lv_iconst (v := 0) hx hb dX2_init_13 (by decide) ?_
  refine va_put (D := G) (ci := 2) (v := .int 0) (ty := (tyX2 1)) (C := RX2) (T := TX2) (N := 13) hx hb hts hin2 tyX2 tyX2_ok nmX2 hown hK.1 hP hD hS 0 rfl rfl 1 (by decide) (hts (.fieldLink RX2 13 "FundBook" "depositRate" "I") (by decide +kernel)) (fun _ h9 => h9) rfl (by decide +kernel) rfl rfl (Nat.le_of_ble_eq_true rfl) dX2_init_14 (fun H locs hP hD hS => ?_)
  have hP : va_P G vwCl [(h0, .inr (2, [.ref q1, .int 0, .int 0, .int 0, .int 0, .null, .int 0, .null, .null, .null, .null, .null, .null])), (q1, .inl (y 0, 6, .inl (fun _ => 0)))] H := hP
  have hD : va_D A [(h0, .inr (2, [.ref q1, .int 0, .int 0, .int 0, .int 0, .null, .int 0, .null, .null, .null, .null, .null, .null])), (q1, .inl (y 0, 6, .inl (fun _ => 0)))] := hD
  refine lv_aload_n hx hb dX2_init_17 rfl (lv_at hl 0 rfl) ?_
  refine lv_iconst (v := 0) hx hb dX2_init_18 (by decide) ?_
  refine va_put (D := G) (ci := 2) (v := .int 0) (ty := (tyX2 2)) (C := RX2) (T := TX2) (N := 13) hx hb hts hin2 tyX2 tyX2_ok nmX2 hown hK.1 hP hD hS 0 rfl rfl 2 (by decide) (hts (.fieldLink RX2 17 "FundBook" "optionRate" "I") (by decide +kernel)) (fun _ h9 => h9) rfl (by decide +kernel) rfl rfl (Nat.le_of_ble_eq_true rfl) dX2_init_19 (fun H locs hP hD hS => ?_)
  have hP : va_P G vwCl [(h0, .inr (2, [.ref q1, .int 0, .int 0, .int 0, .int 0, .null, .int 0, .null, .null, .null, .null, .null, .null])), (q1, .inl (y 0, 6, .inl (fun _ => 0)))] H := hP
  have hD : va_D A [(h0, .inr (2, [.ref q1, .int 0, .int 0, .int 0, .int 0, .null, .int 0, .null, .null, .null, .null, .null, .null])), (q1, .inl (y 0, 6, .inl (fun _ => 0)))] := hD
  refine lv_aload_n hx hb dX2_init_22 rfl (lv_at hl 0 rfl) ?_
  refine lv_bipush (v := 50) hx hb dX2_init_23 (by decide) ?_
  refine va_put (D := G) (ci := 2) (v := .int 50) (ty := (tyX2 3)) (C := RX2) (T := TX2) (N := 13) hx hb hts hin2 tyX2 tyX2_ok nmX2 hown hK.1 hP hD hS 0 rfl rfl 3 (by decide) (hts (.fieldLink RX2 20 "FundBook" "coreShare" "I") (by decide +kernel)) (fun _ h9 => h9) rfl (by decide +kernel) rfl rfl (Nat.le_of_ble_eq_true rfl) dX2_init_25 (fun H locs hP hD hS => ?_)
  have hP : va_P G vwCl [(h0, .inr (2, [.ref q1, .int 0, .int 0, .int 50, .int 0, .null, .int 0, .null, .null, .null, .null, .null, .null])), (q1, .inl (y 0, 6, .inl (fun _ => 0)))] H := hP
  have hD : va_D A [(h0, .inr (2, [.ref q1, .int 0, .int 0, .int 50, .int 0, .null, .int 0, .null, .null, .null, .null, .null, .null])), (q1, .inl (y 0, 6, .inl (fun _ => 0)))] := hD
  refine lv_aload_n hx hb dX2_init_28 rfl (lv_at hl 0 rfl) ?_
  refine lv_iconst (v := 0) hx hb dX2_init_29 (by decide) ?_
  refine va_put (D := G) (ci := 2) (v := .int 0) (ty := (tyX2 4)) (C := RX2) (T := TX2) (N := 13) hx hb hts hin2 tyX2 tyX2_ok nmX2 hown hK.1 hP hD hS 0 rfl rfl 4 (by decide) (hts (.fieldLink RX2 23 "FundBook" "now" "I") (by decide +kernel)) (fun _ h9 => h9) rfl (by decide +kernel) rfl rfl (Nat.le_of_ble_eq_true rfl) dX2_init_30 (fun H locs hP hD hS => ?_)
  have hP : va_P G vwCl [(h0, .inr (2, [.ref q1, .int 0, .int 0, .int 50, .int 0, .null, .int 0, .null, .null, .null, .null, .null, .null])), (q1, .inl (y 0, 6, .inl (fun _ => 0)))] H := hP
  have hD : va_D A [(h0, .inr (2, [.ref q1, .int 0, .int 0, .int 50, .int 0, .null, .int 0, .null, .null, .null, .null, .null, .null])), (q1, .inl (y 0, 6, .inl (fun _ => 0)))] := hD
  refine lv_aload_n hx hb dX2_init_33 rfl (lv_at hl 0 rfl) ?_
  refine lv_bipush (v := 24) hx hb dX2_init_34 (by decide) ?_
  refine va_newq (C := RX0) (own := RX2) (N' := 24) hx hb hown (hts (.classLink RX2 26 RX0) (by decide +kernel)) hOa hK.1 hP hD hS hA (nI_pos (n := 24) (by decide)) (nI_clamp (n := 24) (by decide)) (by decide) (Nat.le_of_ble_eq_true rfl) (Nat.le_of_ble_eq_true rfl) dX2_init_36 (fun q2 cA H hk hP hD hS => ?_)
  obtain rfl : cA = y 2 := by
    obtain ⟨-, -, -, -, -, e1⟩ := last_ty hk
    obtain ⟨-, -, -, -, -, e2⟩ := (hK.1.2 2 (y 2, .object RX0) rfl).2
    exact Option.some.inj (e1.symm.trans e2)
  have hP : va_P G vwCl [(h0, .inr (2, [.ref q1, .int 0, .int 0, .int 50, .int 0, .null, .int 0, .null, .null, .null, .null, .null, .null])), (q1, .inl (y 0, 6, .inl (fun _ => 0))), (q2, .inl (y 2, 24, .inr (.inr (.inr (.inr (fun _ => none))))))] H := hP
  have hD : va_D A [(h0, .inr (2, [.ref q1, .int 0, .int 0, .int 50, .int 0, .null, .int 0, .null, .null, .null, .null, .null, .null])), (q1, .inl (y 0, 6, .inl (fun _ => 0))), (q2, .inl (y 2, 24, .inr (.inr (.inr (.inr (fun _ => none))))))] := hD
  refine W.widen (k := 2) (n := 30) (Nat.le_of_ble_eq_true rfl) (Nat.le_of_ble_eq_true rfl) ?_
  refine va_putF (D := G) (ci := 2) (v := .ref q2) (ty := (tyX2 5)) (C := RX2) (T := TX2) (N := 13) hx hb hts hin2 tyX2 tyX2_ok nmX2 hown hK.1 hP hD hS 0 rfl rfl 5 (by decide) (hts (.fieldLink RX2 28 "FundBook" "loanRows" "[LFundBook$Loan;") (by decide +kernel)) (fun _ h9 => h9) rfl hin rfl (by decide +kernel) rfl rfl (Nat.le_of_ble_eq_true rfl) dX2_init_39 (fun H locs hP hD hS => ?_)
  have hP : va_P G vwCl [(h0, .inr (2, [.ref q1, .int 0, .int 0, .int 50, .int 0, .ref q2, .int 0, .null, .null, .null, .null, .null, .null])), (q1, .inl (y 0, 6, .inl (fun _ => 0))), (q2, .inl (y 2, 24, .inr (.inr (.inr (.inr (fun _ => none))))))] H := hP
  have hD : va_D A [(h0, .inr (2, [.ref q1, .int 0, .int 0, .int 50, .int 0, .ref q2, .int 0, .null, .null, .null, .null, .null, .null])), (q1, .inl (y 0, 6, .inl (fun _ => 0))), (q2, .inl (y 2, 24, .inr (.inr (.inr (.inr (fun _ => none))))))] := hD
  refine lv_aload_n hx hb dX2_init_42 rfl (lv_at hl 0 rfl) ?_
  refine lv_iconst (v := 0) hx hb dX2_init_43 (by decide) ?_
  refine va_put (D := G) (ci := 2) (v := .int 0) (ty := (tyX2 6)) (C := RX2) (T := TX2) (N := 13) hx hb hts hin2 tyX2 tyX2_ok nmX2 hown hK.1 hP hD hS 0 rfl rfl 6 (by decide) (hts (.fieldLink RX2 32 "FundBook" "loanCount" "I") (by decide +kernel)) (fun _ h9 => h9) rfl (by decide +kernel) rfl rfl (Nat.le_of_ble_eq_true rfl) dX2_init_44 (fun H locs hP hD hS => ?_)
  have hP : va_P G vwCl [(h0, .inr (2, [.ref q1, .int 0, .int 0, .int 50, .int 0, .ref q2, .int 0, .null, .null, .null, .null, .null, .null])), (q1, .inl (y 0, 6, .inl (fun _ => 0))), (q2, .inl (y 2, 24, .inr (.inr (.inr (.inr (fun _ => none))))))] H := hP
  have hD : va_D A [(h0, .inr (2, [.ref q1, .int 0, .int 0, .int 50, .int 0, .ref q2, .int 0, .null, .null, .null, .null, .null, .null])), (q1, .inl (y 0, 6, .inl (fun _ => 0))), (q2, .inl (y 2, 24, .inr (.inr (.inr (.inr (fun _ => none))))))] := hD
  refine lv_aload_n hx hb dX2_init_47 rfl (lv_at hl 0 rfl) ?_
  refine lv_iconst (v := 3) hx hb dX2_init_48 (by decide) ?_
  refine nwI (N := 3) hx hb (hts (.arrayClass .int) (by decide +kernel)) hK hP hD hS hA rfl (by decide) (Nat.le_of_ble_eq_true rfl) (Nat.le_of_ble_eq_true rfl) dX2_init_49 (fun q3 H hP hD hS => ?_)
  have hP : va_P G vwCl [(h0, .inr (2, [.ref q1, .int 0, .int 0, .int 50, .int 0, .ref q2, .int 0, .null, .null, .null, .null, .null, .null])), (q1, .inl (y 0, 6, .inl (fun _ => 0))), (q2, .inl (y 2, 24, .inr (.inr (.inr (.inr (fun _ => none)))))), (q3, .inl (y 0, 3, .inl (fun _ => 0)))] H := hP
  have hD : va_D A [(h0, .inr (2, [.ref q1, .int 0, .int 0, .int 50, .int 0, .ref q2, .int 0, .null, .null, .null, .null, .null, .null])), (q1, .inl (y 0, 6, .inl (fun _ => 0))), (q2, .inl (y 2, 24, .inr (.inr (.inr (.inr (fun _ => none)))))), (q3, .inl (y 0, 3, .inl (fun _ => 0)))] := hD
  refine W.widen (k := 3) (n := 33) (Nat.le_of_ble_eq_true rfl) (Nat.le_of_ble_eq_true rfl) ?_
  refine va_putF (D := G) (ci := 2) (v := .ref q3) (ty := (tyX2 7)) (C := RX2) (T := TX2) (N := 13) hx hb hts hin2 tyX2 tyX2_ok nmX2 hown hK.1 hP hD hS 0 rfl rfl 7 (by decide) (hts (.fieldLink RX2 35 "FundBook" "balances" "[I") (by decide +kernel)) (fun _ h9 => h9) rfl hin rfl (by decide +kernel) rfl rfl (Nat.le_of_ble_eq_true rfl) dX2_init_51 (fun H locs hP hD hS => ?_)
  have hP : va_P G vwCl [(h0, .inr (2, [.ref q1, .int 0, .int 0, .int 50, .int 0, .ref q2, .int 0, .ref q3, .null, .null, .null, .null, .null])), (q1, .inl (y 0, 6, .inl (fun _ => 0))), (q2, .inl (y 2, 24, .inr (.inr (.inr (.inr (fun _ => none)))))), (q3, .inl (y 0, 3, .inl (fun _ => 0)))] H := hP
  have hD : va_D A [(h0, .inr (2, [.ref q1, .int 0, .int 0, .int 50, .int 0, .ref q2, .int 0, .ref q3, .null, .null, .null, .null, .null])), (q1, .inl (y 0, 6, .inl (fun _ => 0))), (q2, .inl (y 2, 24, .inr (.inr (.inr (.inr (fun _ => none)))))), (q3, .inl (y 0, 3, .inl (fun _ => 0)))] := hD
  refine lv_aload_n hx hb dX2_init_54 rfl (lv_at hl 0 rfl) ?_
  refine va_new (ci := 1) (fs := [.null, .null]) (C := RX1) (T := TX1) (N := 2) hx hb hts hin1 tyX1 tyX1_ok hown (hts (.classLink RX2 38 RX1) (by decide +kernel)) (hts (.instantiable RX1 2) (by decide +kernel)) (hts (.initialized RX1) (by decide +kernel)) hK.1 hP hD hS hA rfl (fun j hj => by rcases (show j = 0 ∨ j = 1 by omega) with rfl | rfl <;> rfl) (Nat.le_of_ble_eq_true rfl) (Nat.le_of_ble_eq_true rfl) dX2_init_55 (fun q4 H hP hD hS => ?_)
  have hPj : va_P G vwCl ([(h0, .inr (2, [.ref q1, .int 0, .int 0, .int 50, .int 0, .ref q2, .int 0, .ref q3, .null, .null, .null, .null, .null])), (q1, .inl (y 0, 6, .inl (fun _ => 0))), (q2, .inl (y 2, 24, .inr (.inr (.inr (.inr (fun _ => none)))))), (q3, .inl (y 0, 3, .inl (fun _ => 0)))] ++ [(q4, .inr (1, [.null, .null]))]) H := hP
  have hDj : va_D A ([(h0, .inr (2, [.ref q1, .int 0, .int 0, .int 50, .int 0, .ref q2, .int 0, .ref q3, .null, .null, .null, .null, .null])), (q1, .inl (y 0, 6, .inl (fun _ => 0))), (q2, .inl (y 2, 24, .inr (.inr (.inr (.inr (fun _ => none)))))), (q3, .inl (y 0, 3, .inl (fun _ => 0)))] ++ [(q4, .inr (1, [.null, .null]))]) := hD
  refine W.widen (k := 4) (n := 35) (Nat.le_of_ble_eq_true rfl) (Nat.le_of_ble_eq_true rfl) ?_
  refine lv_dup hx hb dX2_init_58 rfl ?_
  have hFc : ∀ q, va_A [(q4, .inr (1, [.null, .null]))] H.size q → A q := freeR hDj hS hA
  have hPc : va_P G vwCl [(q4, .inr (1, [.null, .null]))] H := hP.sub [4] rfl
  have hDc : va_D (fun _ => True) [(q4, .inr (1, [.null, .null]))] := (hD.weaken (fun _ _ _ _ => trivial)).sub [4] (by decide) rfl
  refine caN (va_runIN (host := "FundBook") (As := []) (rest := [.ref q4, .ref h0]) ⟨hx, hb, hml, hown, hts⟩ (c_X1_init l G y q4 H.size) ⟨va_cnB 0 hts gX2_init_X1_init_n40 rfl rfl rfl (hK.nw (by decide +kernel)) (hts (.initialized RX1) (by decide +kernel)) (by decide +kernel) ⟨Nat.le_of_ble_eq_true rfl, Nat.le_of_ble_eq_true rfl⟩, rfl, hts (.instanceMethod yX1_init) (by decide +kernel)⟩ ⟨mP_bl, fun U hU hW => ⟨rfl, by rw [hU], by rw [hU]; exact hPc, Kb.moved hW hK, hDc⟩⟩ rfl rfl hl.1 rfl (lv_room (Nat.le_of_ble_eq_true rfl)) dX2_init_59 ⟨Nat.le_of_ble_eq_true rfl, Nat.le_of_ble_eq_true rfl⟩) hS hFc hFc (fun u H locs _ hP1 hD1 hk1 hS => ?_)
  refine W.eq (g2 := F0 m 62 ls [.ref q4, .ref h0]) rfl ?_
  obtain ⟨q5, q6⟩ := u
  obtain ⟨hP, hD⟩ := joinW hPj hDj hk1 hP1 hD1 hFc
  have hP : va_P G vwCl [(h0, .inr (2, [.ref q1, .int 0, .int 0, .int 50, .int 0, .ref q2, .int 0, .ref q3, .null, .null, .null, .null, .null])), (q1, .inl (y 0, 6, .inl (fun _ => 0))), (q2, .inl (y 2, 24, .inr (.inr (.inr (.inr (fun _ => none)))))), (q3, .inl (y 0, 3, .inl (fun _ => 0))), (q4, .inr (1, [.ref q5, .ref q6])), (q5, .inl (y 0, 6, .inl (fun _ => 0))), (q6, .inl (y 0, 6, .inl (fun _ => 0)))] H := hP
  have hD : va_D A [(h0, .inr (2, [.ref q1, .int 0, .int 0, .int 50, .int 0, .ref q2, .int 0, .ref q3, .null, .null, .null, .null, .null])), (q1, .inl (y 0, 6, .inl (fun _ => 0))), (q2, .inl (y 2, 24, .inr (.inr (.inr (.inr (fun _ => none)))))), (q3, .inl (y 0, 3, .inl (fun _ => 0))), (q4, .inr (1, [.ref q5, .ref q6])), (q5, .inl (y 0, 6, .inl (fun _ => 0))), (q6, .inl (y 0, 6, .inl (fun _ => 0)))] := hD
  refine W.widen (k := 6) (n := 47) (Nat.le_of_ble_eq_true rfl) (Nat.le_of_ble_eq_true rfl) ?_
  refine va_putF (D := G) (ci := 2) (v := .ref q4) (ty := (tyX2 8)) (C := RX2) (T := TX2) (N := 13) hx hb hts hin2 tyX2 tyX2_ok nmX2 hown hK.1 hP hD hS 0 rfl rfl 8 (by decide) (hts (.fieldLink RX2 41 "FundBook" "replica" "LFundBook$Replica;") (by decide +kernel)) (fun _ h9 => h9) rfl hin rfl (by decide +kernel) rfl rfl (Nat.le_of_ble_eq_true rfl) dX2_init_62 (fun H locs hP hD hS => ?_)
  have hP : va_P G vwCl [(h0, .inr (2, [.ref q1, .int 0, .int 0, .int 50, .int 0, .ref q2, .int 0, .ref q3, .ref q4, .null, .null, .null, .null])), (q1, .inl (y 0, 6, .inl (fun _ => 0))), (q2, .inl (y 2, 24, .inr (.inr (.inr (.inr (fun _ => none)))))), (q3, .inl (y 0, 3, .inl (fun _ => 0))), (q4, .inr (1, [.ref q5, .ref q6])), (q5, .inl (y 0, 6, .inl (fun _ => 0))), (q6, .inl (y 0, 6, .inl (fun _ => 0)))] H := hP
  have hD : va_D A [(h0, .inr (2, [.ref q1, .int 0, .int 0, .int 50, .int 0, .ref q2, .int 0, .ref q3, .ref q4, .null, .null, .null, .null])), (q1, .inl (y 0, 6, .inl (fun _ => 0))), (q2, .inl (y 2, 24, .inr (.inr (.inr (.inr (fun _ => none)))))), (q3, .inl (y 0, 3, .inl (fun _ => 0))), (q4, .inr (1, [.ref q5, .ref q6])), (q5, .inl (y 0, 6, .inl (fun _ => 0))), (q6, .inl (y 0, 6, .inl (fun _ => 0)))] := hD
  refine lv_aload_n hx hb dX2_init_65 rfl (lv_at hl 0 rfl) ?_
  refine lv_iconst (v := 3) hx hb dX2_init_66 (by decide) ?_
  refine lv_bipush (v := 47) hx hb dX2_init_67 (by decide) ?_
  have hPx : va_P G vwCl ([(h0, .inr (2, [.ref q1, .int 0, .int 0, .int 50, .int 0, .ref q2, .int 0, .ref q3, .ref q4, .null, .null, .null, .null])), (q1, .inl (y 0, 6, .inl (fun _ => 0))), (q2, .inl (y 2, 24, .inr (.inr (.inr (.inr (fun _ => none)))))), (q3, .inl (y 0, 3, .inl (fun _ => 0))), (q4, .inr (1, [.ref q5, .ref q6])), (q5, .inl (y 0, 6, .inl (fun _ => 0))), (q6, .inl (y 0, 6, .inl (fun _ => 0)))] ++ va_pl [] (fun _ => .inr (0, []))) H := hP
  have hDx : va_D A ([(h0, .inr (2, [.ref q1, .int 0, .int 0, .int 50, .int 0, .ref q2, .int 0, .ref q3, .ref q4, .null, .null, .null, .null])), (q1, .inl (y 0, 6, .inl (fun _ => 0))), (q2, .inl (y 2, 24, .inr (.inr (.inr (.inr (fun _ => none)))))), (q3, .inl (y 0, 3, .inl (fun _ => 0))), (q4, .inr (1, [.ref q5, .ref q6])), (q5, .inl (y 0, 6, .inl (fun _ => 0))), (q6, .inl (y 0, 6, .inl (fun _ => 0)))] ++ va_pl [] (fun _ => .inr (0, []))) := hD
  refine va_mna (own := RX2) (ty := .int) (cy := y 0) (N' := 3) (K' := 47) (z := (47, .inl (fun _ => 0))) hx hb hown (hts (.classLink RX2 45 "[[I") (by decide +kernel)) hOb (hts (.arrayClass .int) (by decide +kernel)) (hK.1.2 0 _ rfl).2 hK.1 hPx hDx hS hA (nI_pos (n := 3) (by decide)) (nI_pos (n := 47) (by decide)) (nI_clamp (n := 3) (by decide)) (nI_clamp (n := 47) (by decide)) (by decide) (by decide) (by decide) rfl rfl (Nat.le_of_ble_eq_true rfl) (Nat.le_of_ble_eq_true rfl) (fun c9 => arrV_new c9 47 (.int 0)) dX2_init_69 (fun pr r cA H hinj hnl hk hP hD hS => ?_)
  obtain rfl : cA = y 3 := Option.some.inj ((last_ty hk).symm.trans (hK.1.2 3 (y 3, .array .int) rfl).2)
  rw [← vr_rows (L := []) (fun _ _ h => nomatch h)] at hP hD
  have hP : va_P G vwCl [(h0, .inr (2, [.ref q1, .int 0, .int 0, .int 50, .int 0, .ref q2, .int 0, .ref q3, .ref q4, .null, .null, .null, .null])), (q1, .inl (y 0, 6, .inl (fun _ => 0))), (q2, .inl (y 2, 24, .inr (.inr (.inr (.inr (fun _ => none)))))), (q3, .inl (y 0, 3, .inl (fun _ => 0))), (q4, .inr (1, [.ref q5, .ref q6])), (q5, .inl (y 0, 6, .inl (fun _ => 0))), (q6, .inl (y 0, 6, .inl (fun _ => 0))), (pr, .inl (y 3, 3, .inr (.inr (.inr (.inr (fun i => if i < 3 then some (r i) else none)))))), ((r 0), .inl (y 0, 47, .inl (fun _ => 0))), ((r 1), .inl (y 0, 47, .inl (fun _ => 0))), ((r 2), .inl (y 0, 47, .inl (fun _ => 0)))] H := hP
  have hD : va_D A [(h0, .inr (2, [.ref q1, .int 0, .int 0, .int 50, .int 0, .ref q2, .int 0, .ref q3, .ref q4, .null, .null, .null, .null])), (q1, .inl (y 0, 6, .inl (fun _ => 0))), (q2, .inl (y 2, 24, .inr (.inr (.inr (.inr (fun _ => none)))))), (q3, .inl (y 0, 3, .inl (fun _ => 0))), (q4, .inr (1, [.ref q5, .ref q6])), (q5, .inl (y 0, 6, .inl (fun _ => 0))), (q6, .inl (y 0, 6, .inl (fun _ => 0))), (pr, .inl (y 3, 3, .inr (.inr (.inr (.inr (fun i => if i < 3 then some (r i) else none)))))), ((r 0), .inl (y 0, 47, .inl (fun _ => 0))), ((r 1), .inl (y 0, 47, .inl (fun _ => 0))), ((r 2), .inl (y 0, 47, .inl (fun _ => 0)))] := hD
  refine W.widen (k := 10) (n := 191) (Nat.le_of_ble_eq_true rfl) (Nat.le_of_ble_eq_true rfl) ?_
  refine va_putF (D := G) (ci := 2) (v := .ref pr) (ty := (tyX2 9)) (C := RX2) (T := TX2) (N := 13) hx hb hts hin2 tyX2 tyX2_ok nmX2 hown hK.1 hP hD hS 0 rfl rfl 9 (by decide) (hts (.fieldLink RX2 47 "FundBook" "branchMargins" "[[I") (by decide +kernel)) (fun _ h9 => h9) rfl hin rfl (by decide +kernel) rfl rfl (Nat.le_of_ble_eq_true rfl) dX2_init_73 (fun H locs hP hD hS => ?_)
  have hP : va_P G vwCl [(h0, .inr (2, [.ref q1, .int 0, .int 0, .int 50, .int 0, .ref q2, .int 0, .ref q3, .ref q4, .ref pr, .null, .null, .null])), (q1, .inl (y 0, 6, .inl (fun _ => 0))), (q2, .inl (y 2, 24, .inr (.inr (.inr (.inr (fun _ => none)))))), (q3, .inl (y 0, 3, .inl (fun _ => 0))), (q4, .inr (1, [.ref q5, .ref q6])), (q5, .inl (y 0, 6, .inl (fun _ => 0))), (q6, .inl (y 0, 6, .inl (fun _ => 0))), (pr, .inl (y 3, 3, .inr (.inr (.inr (.inr (fun i => if i < 3 then some (r i) else none)))))), ((r 0), .inl (y 0, 47, .inl (fun _ => 0))), ((r 1), .inl (y 0, 47, .inl (fun _ => 0))), ((r 2), .inl (y 0, 47, .inl (fun _ => 0)))] H := hP
  have hD : va_D A [(h0, .inr (2, [.ref q1, .int 0, .int 0, .int 50, .int 0, .ref q2, .int 0, .ref q3, .ref q4, .ref pr, .null, .null, .null])), (q1, .inl (y 0, 6, .inl (fun _ => 0))), (q2, .inl (y 2, 24, .inr (.inr (.inr (.inr (fun _ => none)))))), (q3, .inl (y 0, 3, .inl (fun _ => 0))), (q4, .inr (1, [.ref q5, .ref q6])), (q5, .inl (y 0, 6, .inl (fun _ => 0))), (q6, .inl (y 0, 6, .inl (fun _ => 0))), (pr, .inl (y 3, 3, .inr (.inr (.inr (.inr (fun i => if i < 3 then some (r i) else none)))))), ((r 0), .inl (y 0, 47, .inl (fun _ => 0))), ((r 1), .inl (y 0, 47, .inl (fun _ => 0))), ((r 2), .inl (y 0, 47, .inl (fun _ => 0)))] := hD
  refine lv_aload_n hx hb dX2_init_76 rfl (lv_at hl 0 rfl) ?_
  refine lv_iconst (v := 3) hx hb dX2_init_77 (by decide) ?_
  refine lv_bipush (v := 47) hx hb dX2_init_78 (by decide) ?_
  have hPx : va_P G vwCl ([(h0, .inr (2, [.ref q1, .int 0, .int 0, .int 50, .int 0, .ref q2, .int 0, .ref q3, .ref q4, .ref pr, .null, .null, .null])), (q1, .inl (y 0, 6, .inl (fun _ => 0))), (q2, .inl (y 2, 24, .inr (.inr (.inr (.inr (fun _ => none)))))), (q3, .inl (y 0, 3, .inl (fun _ => 0))), (q4, .inr (1, [.ref q5, .ref q6])), (q5, .inl (y 0, 6, .inl (fun _ => 0))), (q6, .inl (y 0, 6, .inl (fun _ => 0))), (pr, .inl (y 3, 3, .inr (.inr (.inr (.inr (fun i => if i < 3 then some (r i) else none)))))), ((r 0), .inl (y 0, 47, .inl (fun _ => 0))), ((r 1), .inl (y 0, 47, .inl (fun _ => 0))), ((r 2), .inl (y 0, 47, .inl (fun _ => 0)))] ++ va_pl [] (fun _ => .inr (0, []))) H := hP
  have hDx : va_D A ([(h0, .inr (2, [.ref q1, .int 0, .int 0, .int 50, .int 0, .ref q2, .int 0, .ref q3, .ref q4, .ref pr, .null, .null, .null])), (q1, .inl (y 0, 6, .inl (fun _ => 0))), (q2, .inl (y 2, 24, .inr (.inr (.inr (.inr (fun _ => none)))))), (q3, .inl (y 0, 3, .inl (fun _ => 0))), (q4, .inr (1, [.ref q5, .ref q6])), (q5, .inl (y 0, 6, .inl (fun _ => 0))), (q6, .inl (y 0, 6, .inl (fun _ => 0))), (pr, .inl (y 3, 3, .inr (.inr (.inr (.inr (fun i => if i < 3 then some (r i) else none)))))), ((r 0), .inl (y 0, 47, .inl (fun _ => 0))), ((r 1), .inl (y 0, 47, .inl (fun _ => 0))), ((r 2), .inl (y 0, 47, .inl (fun _ => 0)))] ++ va_pl [] (fun _ => .inr (0, []))) := hD
  refine va_mna (own := RX2) (ty := .int) (cy := y 0) (N' := 3) (K' := 47) (z := (47, .inl (fun _ => 0))) hx hb hown (hts (.classLink RX2 45 "[[I") (by decide +kernel)) hOb (hts (.arrayClass .int) (by decide +kernel)) (hK.1.2 0 _ rfl).2 hK.1 hPx hDx hS hA (nI_pos (n := 3) (by decide)) (nI_pos (n := 47) (by decide)) (nI_clamp (n := 3) (by decide)) (nI_clamp (n := 47) (by decide)) (by decide) (by decide) (by decide) rfl rfl (Nat.le_of_ble_eq_true rfl) (Nat.le_of_ble_eq_true rfl) (fun c9 => arrV_new c9 47 (.int 0)) dX2_init_80 (fun pw w cA H hinj hnl hk hP hD hS => ?_)
  obtain rfl : cA = y 3 := Option.some.inj ((last_ty hk).symm.trans (hK.1.2 3 (y 3, .array .int) rfl).2)
  rw [← vr_rows (L := []) (fun _ _ h => nomatch h)] at hP hD
  have hP : va_P G vwCl [(h0, .inr (2, [.ref q1, .int 0, .int 0, .int 50, .int 0, .ref q2, .int 0, .ref q3, .ref q4, .ref pr, .null, .null, .null])), (q1, .inl (y 0, 6, .inl (fun _ => 0))), (q2, .inl (y 2, 24, .inr (.inr (.inr (.inr (fun _ => none)))))), (q3, .inl (y 0, 3, .inl (fun _ => 0))), (q4, .inr (1, [.ref q5, .ref q6])), (q5, .inl (y 0, 6, .inl (fun _ => 0))), (q6, .inl (y 0, 6, .inl (fun _ => 0))), (pr, .inl (y 3, 3, .inr (.inr (.inr (.inr (fun i => if i < 3 then some (r i) else none)))))), ((r 0), .inl (y 0, 47, .inl (fun _ => 0))), ((r 1), .inl (y 0, 47, .inl (fun _ => 0))), ((r 2), .inl (y 0, 47, .inl (fun _ => 0))), (pw, .inl (y 3, 3, .inr (.inr (.inr (.inr (fun i => if i < 3 then some (w i) else none)))))), ((w 0), .inl (y 0, 47, .inl (fun _ => 0))), ((w 1), .inl (y 0, 47, .inl (fun _ => 0))), ((w 2), .inl (y 0, 47, .inl (fun _ => 0)))] H := hP
  have hD : va_D A [(h0, .inr (2, [.ref q1, .int 0, .int 0, .int 50, .int 0, .ref q2, .int 0, .ref q3, .ref q4, .ref pr, .null, .null, .null])), (q1, .inl (y 0, 6, .inl (fun _ => 0))), (q2, .inl (y 2, 24, .inr (.inr (.inr (.inr (fun _ => none)))))), (q3, .inl (y 0, 3, .inl (fun _ => 0))), (q4, .inr (1, [.ref q5, .ref q6])), (q5, .inl (y 0, 6, .inl (fun _ => 0))), (q6, .inl (y 0, 6, .inl (fun _ => 0))), (pr, .inl (y 3, 3, .inr (.inr (.inr (.inr (fun i => if i < 3 then some (r i) else none)))))), ((r 0), .inl (y 0, 47, .inl (fun _ => 0))), ((r 1), .inl (y 0, 47, .inl (fun _ => 0))), ((r 2), .inl (y 0, 47, .inl (fun _ => 0))), (pw, .inl (y 3, 3, .inr (.inr (.inr (.inr (fun i => if i < 3 then some (w i) else none)))))), ((w 0), .inl (y 0, 47, .inl (fun _ => 0))), ((w 1), .inl (y 0, 47, .inl (fun _ => 0))), ((w 2), .inl (y 0, 47, .inl (fun _ => 0)))] := hD
  refine W.widen (k := 14) (n := 335) (Nat.le_of_ble_eq_true rfl) (Nat.le_of_ble_eq_true rfl) ?_
  refine va_putF (D := G) (ci := 2) (v := .ref pw) (ty := (tyX2 10)) (C := RX2) (T := TX2) (N := 13) hx hb hts hin2 tyX2 tyX2_ok nmX2 hown hK.1 hP hD hS 0 rfl rfl 10 (by decide) (hts (.fieldLink RX2 50 "FundBook" "productMargins" "[[I") (by decide +kernel)) (fun _ h9 => h9) rfl hin rfl (by decide +kernel) rfl rfl (Nat.le_of_ble_eq_true rfl) dX2_init_84 (fun H locs hP hD hS => ?_)
  have hP : va_P G vwCl [(h0, .inr (2, [.ref q1, .int 0, .int 0, .int 50, .int 0, .ref q2, .int 0, .ref q3, .ref q4, .ref pr, .ref pw, .null, .null])), (q1, .inl (y 0, 6, .inl (fun _ => 0))), (q2, .inl (y 2, 24, .inr (.inr (.inr (.inr (fun _ => none)))))), (q3, .inl (y 0, 3, .inl (fun _ => 0))), (q4, .inr (1, [.ref q5, .ref q6])), (q5, .inl (y 0, 6, .inl (fun _ => 0))), (q6, .inl (y 0, 6, .inl (fun _ => 0))), (pr, .inl (y 3, 3, .inr (.inr (.inr (.inr (fun i => if i < 3 then some (r i) else none)))))), ((r 0), .inl (y 0, 47, .inl (fun _ => 0))), ((r 1), .inl (y 0, 47, .inl (fun _ => 0))), ((r 2), .inl (y 0, 47, .inl (fun _ => 0))), (pw, .inl (y 3, 3, .inr (.inr (.inr (.inr (fun i => if i < 3 then some (w i) else none)))))), ((w 0), .inl (y 0, 47, .inl (fun _ => 0))), ((w 1), .inl (y 0, 47, .inl (fun _ => 0))), ((w 2), .inl (y 0, 47, .inl (fun _ => 0)))] H := hP
  have hD : va_D A [(h0, .inr (2, [.ref q1, .int 0, .int 0, .int 50, .int 0, .ref q2, .int 0, .ref q3, .ref q4, .ref pr, .ref pw, .null, .null])), (q1, .inl (y 0, 6, .inl (fun _ => 0))), (q2, .inl (y 2, 24, .inr (.inr (.inr (.inr (fun _ => none)))))), (q3, .inl (y 0, 3, .inl (fun _ => 0))), (q4, .inr (1, [.ref q5, .ref q6])), (q5, .inl (y 0, 6, .inl (fun _ => 0))), (q6, .inl (y 0, 6, .inl (fun _ => 0))), (pr, .inl (y 3, 3, .inr (.inr (.inr (.inr (fun i => if i < 3 then some (r i) else none)))))), ((r 0), .inl (y 0, 47, .inl (fun _ => 0))), ((r 1), .inl (y 0, 47, .inl (fun _ => 0))), ((r 2), .inl (y 0, 47, .inl (fun _ => 0))), (pw, .inl (y 3, 3, .inr (.inr (.inr (.inr (fun i => if i < 3 then some (w i) else none)))))), ((w 0), .inl (y 0, 47, .inl (fun _ => 0))), ((w 1), .inl (y 0, 47, .inl (fun _ => 0))), ((w 2), .inl (y 0, 47, .inl (fun _ => 0)))] := hD
  refine lv_aload_n hx hb dX2_init_87 rfl (lv_at hl 0 rfl) ?_
  refine lv_bipush (v := 47) hx hb dX2_init_88 (by decide) ?_
  refine nwI (N := 47) hx hb (hts (.arrayClass .int) (by decide +kernel)) hK hP hD hS hA rfl (by decide) (Nat.le_of_ble_eq_true rfl) (Nat.le_of_ble_eq_true rfl) dX2_init_90 (fun q15 H hP hD hS => ?_)
  have hP : va_P G vwCl [(h0, .inr (2, [.ref q1, .int 0, .int 0, .int 50, .int 0, .ref q2, .int 0, .ref q3, .ref q4, .ref pr, .ref pw, .null, .null])), (q1, .inl (y 0, 6, .inl (fun _ => 0))), (q2, .inl (y 2, 24, .inr (.inr (.inr (.inr (fun _ => none)))))), (q3, .inl (y 0, 3, .inl (fun _ => 0))), (q4, .inr (1, [.ref q5, .ref q6])), (q5, .inl (y 0, 6, .inl (fun _ => 0))), (q6, .inl (y 0, 6, .inl (fun _ => 0))), (pr, .inl (y 3, 3, .inr (.inr (.inr (.inr (fun i => if i < 3 then some (r i) else none)))))), ((r 0), .inl (y 0, 47, .inl (fun _ => 0))), ((r 1), .inl (y 0, 47, .inl (fun _ => 0))), ((r 2), .inl (y 0, 47, .inl (fun _ => 0))), (pw, .inl (y 3, 3, .inr (.inr (.inr (.inr (fun i => if i < 3 then some (w i) else none)))))), ((w 0), .inl (y 0, 47, .inl (fun _ => 0))), ((w 1), .inl (y 0, 47, .inl (fun _ => 0))), ((w 2), .inl (y 0, 47, .inl (fun _ => 0))), (q15, .inl (y 0, 47, .inl (fun _ => 0)))] H := hP
  have hD : va_D A [(h0, .inr (2, [.ref q1, .int 0, .int 0, .int 50, .int 0, .ref q2, .int 0, .ref q3, .ref q4, .ref pr, .ref pw, .null, .null])), (q1, .inl (y 0, 6, .inl (fun _ => 0))), (q2, .inl (y 2, 24, .inr (.inr (.inr (.inr (fun _ => none)))))), (q3, .inl (y 0, 3, .inl (fun _ => 0))), (q4, .inr (1, [.ref q5, .ref q6])), (q5, .inl (y 0, 6, .inl (fun _ => 0))), (q6, .inl (y 0, 6, .inl (fun _ => 0))), (pr, .inl (y 3, 3, .inr (.inr (.inr (.inr (fun i => if i < 3 then some (r i) else none)))))), ((r 0), .inl (y 0, 47, .inl (fun _ => 0))), ((r 1), .inl (y 0, 47, .inl (fun _ => 0))), ((r 2), .inl (y 0, 47, .inl (fun _ => 0))), (pw, .inl (y 3, 3, .inr (.inr (.inr (.inr (fun i => if i < 3 then some (w i) else none)))))), ((w 0), .inl (y 0, 47, .inl (fun _ => 0))), ((w 1), .inl (y 0, 47, .inl (fun _ => 0))), ((w 2), .inl (y 0, 47, .inl (fun _ => 0))), (q15, .inl (y 0, 47, .inl (fun _ => 0)))] := hD
  refine W.widen (k := 15) (n := 382) (Nat.le_of_ble_eq_true rfl) (Nat.le_of_ble_eq_true rfl) ?_
  refine va_putF (D := G) (ci := 2) (v := .ref q15) (ty := (tyX2 11)) (C := RX2) (T := TX2) (N := 13) hx hb hts hin2 tyX2 tyX2_ok nmX2 hown hK.1 hP hD hS 0 rfl rfl 11 (by decide) (hts (.fieldLink RX2 53 "FundBook" "treasuryMargins" "[I") (by decide +kernel)) (fun _ h9 => h9) rfl hin rfl (by decide +kernel) rfl rfl (Nat.le_of_ble_eq_true rfl) dX2_init_92 (fun H locs hP hD hS => ?_)
  have hP : va_P G vwCl [(h0, .inr (2, [.ref q1, .int 0, .int 0, .int 50, .int 0, .ref q2, .int 0, .ref q3, .ref q4, .ref pr, .ref pw, .ref q15, .null])), (q1, .inl (y 0, 6, .inl (fun _ => 0))), (q2, .inl (y 2, 24, .inr (.inr (.inr (.inr (fun _ => none)))))), (q3, .inl (y 0, 3, .inl (fun _ => 0))), (q4, .inr (1, [.ref q5, .ref q6])), (q5, .inl (y 0, 6, .inl (fun _ => 0))), (q6, .inl (y 0, 6, .inl (fun _ => 0))), (pr, .inl (y 3, 3, .inr (.inr (.inr (.inr (fun i => if i < 3 then some (r i) else none)))))), ((r 0), .inl (y 0, 47, .inl (fun _ => 0))), ((r 1), .inl (y 0, 47, .inl (fun _ => 0))), ((r 2), .inl (y 0, 47, .inl (fun _ => 0))), (pw, .inl (y 3, 3, .inr (.inr (.inr (.inr (fun i => if i < 3 then some (w i) else none)))))), ((w 0), .inl (y 0, 47, .inl (fun _ => 0))), ((w 1), .inl (y 0, 47, .inl (fun _ => 0))), ((w 2), .inl (y 0, 47, .inl (fun _ => 0))), (q15, .inl (y 0, 47, .inl (fun _ => 0)))] H := hP
  have hD : va_D A [(h0, .inr (2, [.ref q1, .int 0, .int 0, .int 50, .int 0, .ref q2, .int 0, .ref q3, .ref q4, .ref pr, .ref pw, .ref q15, .null])), (q1, .inl (y 0, 6, .inl (fun _ => 0))), (q2, .inl (y 2, 24, .inr (.inr (.inr (.inr (fun _ => none)))))), (q3, .inl (y 0, 3, .inl (fun _ => 0))), (q4, .inr (1, [.ref q5, .ref q6])), (q5, .inl (y 0, 6, .inl (fun _ => 0))), (q6, .inl (y 0, 6, .inl (fun _ => 0))), (pr, .inl (y 3, 3, .inr (.inr (.inr (.inr (fun i => if i < 3 then some (r i) else none)))))), ((r 0), .inl (y 0, 47, .inl (fun _ => 0))), ((r 1), .inl (y 0, 47, .inl (fun _ => 0))), ((r 2), .inl (y 0, 47, .inl (fun _ => 0))), (pw, .inl (y 3, 3, .inr (.inr (.inr (.inr (fun i => if i < 3 then some (w i) else none)))))), ((w 0), .inl (y 0, 47, .inl (fun _ => 0))), ((w 1), .inl (y 0, 47, .inl (fun _ => 0))), ((w 2), .inl (y 0, 47, .inl (fun _ => 0))), (q15, .inl (y 0, 47, .inl (fun _ => 0)))] := hD
  refine lv_aload_n hx hb dX2_init_95 rfl (lv_at hl 0 rfl) ?_
  refine lv_bipush (v := 47) hx hb dX2_init_96 (by decide) ?_
  refine nwI (N := 47) hx hb (hts (.arrayClass .int) (by decide +kernel)) hK hP hD hS hA rfl (by decide) (Nat.le_of_ble_eq_true rfl) (Nat.le_of_ble_eq_true rfl) dX2_init_98 (fun q16 H hP hD hS => ?_)
  have hP : va_P G vwCl [(h0, .inr (2, [.ref q1, .int 0, .int 0, .int 50, .int 0, .ref q2, .int 0, .ref q3, .ref q4, .ref pr, .ref pw, .ref q15, .null])), (q1, .inl (y 0, 6, .inl (fun _ => 0))), (q2, .inl (y 2, 24, .inr (.inr (.inr (.inr (fun _ => none)))))), (q3, .inl (y 0, 3, .inl (fun _ => 0))), (q4, .inr (1, [.ref q5, .ref q6])), (q5, .inl (y 0, 6, .inl (fun _ => 0))), (q6, .inl (y 0, 6, .inl (fun _ => 0))), (pr, .inl (y 3, 3, .inr (.inr (.inr (.inr (fun i => if i < 3 then some (r i) else none)))))), ((r 0), .inl (y 0, 47, .inl (fun _ => 0))), ((r 1), .inl (y 0, 47, .inl (fun _ => 0))), ((r 2), .inl (y 0, 47, .inl (fun _ => 0))), (pw, .inl (y 3, 3, .inr (.inr (.inr (.inr (fun i => if i < 3 then some (w i) else none)))))), ((w 0), .inl (y 0, 47, .inl (fun _ => 0))), ((w 1), .inl (y 0, 47, .inl (fun _ => 0))), ((w 2), .inl (y 0, 47, .inl (fun _ => 0))), (q15, .inl (y 0, 47, .inl (fun _ => 0))), (q16, .inl (y 0, 47, .inl (fun _ => 0)))] H := hP
  have hD : va_D A [(h0, .inr (2, [.ref q1, .int 0, .int 0, .int 50, .int 0, .ref q2, .int 0, .ref q3, .ref q4, .ref pr, .ref pw, .ref q15, .null])), (q1, .inl (y 0, 6, .inl (fun _ => 0))), (q2, .inl (y 2, 24, .inr (.inr (.inr (.inr (fun _ => none)))))), (q3, .inl (y 0, 3, .inl (fun _ => 0))), (q4, .inr (1, [.ref q5, .ref q6])), (q5, .inl (y 0, 6, .inl (fun _ => 0))), (q6, .inl (y 0, 6, .inl (fun _ => 0))), (pr, .inl (y 3, 3, .inr (.inr (.inr (.inr (fun i => if i < 3 then some (r i) else none)))))), ((r 0), .inl (y 0, 47, .inl (fun _ => 0))), ((r 1), .inl (y 0, 47, .inl (fun _ => 0))), ((r 2), .inl (y 0, 47, .inl (fun _ => 0))), (pw, .inl (y 3, 3, .inr (.inr (.inr (.inr (fun i => if i < 3 then some (w i) else none)))))), ((w 0), .inl (y 0, 47, .inl (fun _ => 0))), ((w 1), .inl (y 0, 47, .inl (fun _ => 0))), ((w 2), .inl (y 0, 47, .inl (fun _ => 0))), (q15, .inl (y 0, 47, .inl (fun _ => 0))), (q16, .inl (y 0, 47, .inl (fun _ => 0)))] := hD
  refine W.widen (k := 16) (n := 429) (Nat.le_of_ble_eq_true rfl) (Nat.le_of_ble_eq_true rfl) ?_
  refine va_putF (D := G) (ci := 2) (v := .ref q16) (ty := (tyX2 12)) (C := RX2) (T := TX2) (N := 13) hx hb hts hin2 tyX2 tyX2_ok nmX2 hown hK.1 hP hD hS 0 rfl rfl 12 (by decide) (hts (.fieldLink RX2 56 "FundBook" "bankInterests" "[I") (by decide +kernel)) (fun _ h9 => h9) rfl hin rfl (by decide +kernel) rfl rfl (Nat.le_of_ble_eq_true rfl) dX2_init_100 (fun H locs hP hD hS => ?_)
  have hP : va_P G vwCl [(h0, .inr (2, [.ref q1, .int 0, .int 0, .int 50, .int 0, .ref q2, .int 0, .ref q3, .ref q4, .ref pr, .ref pw, .ref q15, .ref q16])), (q1, .inl (y 0, 6, .inl (fun _ => 0))), (q2, .inl (y 2, 24, .inr (.inr (.inr (.inr (fun _ => none)))))), (q3, .inl (y 0, 3, .inl (fun _ => 0))), (q4, .inr (1, [.ref q5, .ref q6])), (q5, .inl (y 0, 6, .inl (fun _ => 0))), (q6, .inl (y 0, 6, .inl (fun _ => 0))), (pr, .inl (y 3, 3, .inr (.inr (.inr (.inr (fun i => if i < 3 then some (r i) else none)))))), ((r 0), .inl (y 0, 47, .inl (fun _ => 0))), ((r 1), .inl (y 0, 47, .inl (fun _ => 0))), ((r 2), .inl (y 0, 47, .inl (fun _ => 0))), (pw, .inl (y 3, 3, .inr (.inr (.inr (.inr (fun i => if i < 3 then some (w i) else none)))))), ((w 0), .inl (y 0, 47, .inl (fun _ => 0))), ((w 1), .inl (y 0, 47, .inl (fun _ => 0))), ((w 2), .inl (y 0, 47, .inl (fun _ => 0))), (q15, .inl (y 0, 47, .inl (fun _ => 0))), (q16, .inl (y 0, 47, .inl (fun _ => 0)))] H := hP
  have hD : va_D A [(h0, .inr (2, [.ref q1, .int 0, .int 0, .int 50, .int 0, .ref q2, .int 0, .ref q3, .ref q4, .ref pr, .ref pw, .ref q15, .ref q16])), (q1, .inl (y 0, 6, .inl (fun _ => 0))), (q2, .inl (y 2, 24, .inr (.inr (.inr (.inr (fun _ => none)))))), (q3, .inl (y 0, 3, .inl (fun _ => 0))), (q4, .inr (1, [.ref q5, .ref q6])), (q5, .inl (y 0, 6, .inl (fun _ => 0))), (q6, .inl (y 0, 6, .inl (fun _ => 0))), (pr, .inl (y 3, 3, .inr (.inr (.inr (.inr (fun i => if i < 3 then some (r i) else none)))))), ((r 0), .inl (y 0, 47, .inl (fun _ => 0))), ((r 1), .inl (y 0, 47, .inl (fun _ => 0))), ((r 2), .inl (y 0, 47, .inl (fun _ => 0))), (pw, .inl (y 3, 3, .inr (.inr (.inr (.inr (fun i => if i < 3 then some (w i) else none)))))), ((w 0), .inl (y 0, 47, .inl (fun _ => 0))), ((w 1), .inl (y 0, 47, .inl (fun _ => 0))), ((w 2), .inl (y 0, 47, .inl (fun _ => 0))), (q15, .inl (y 0, 47, .inl (fun _ => 0))), (q16, .inl (y 0, 47, .inl (fun _ => 0)))] := hD
  obtain ⟨ad, had⟩ : ∃ ad : Nat → Nat, ad = (fun k => if k = 0 then q1 else if k = 5 then q2 else if k = 7 then q3 else if k = 8 then q4 else if k = 14 then q5 else if k = 15 then q6 else if k = 9 then pr else if k = 10 then pw else if k = 11 then q15 else if k = 12 then q16 else if k < 16 then h0 else if k < 19 then r (k - 16) else w (k - 19)) := ⟨_, rfl⟩
  have e1 : (fun i => if i < 3 then some (r i) else none) = (fun i => if i < 3 then some (ad (16 + i)) else none) := by
    funext i
    by_cases h : i < 3
    · rw [if_pos h, if_pos h]
      rcases (show i = 0 ∨ i = 1 ∨ i = 2 by omega) with rfl | rfl | rfl <;> (subst had; rfl)
    · rw [if_neg h, if_neg h]
  have e2 : (fun i => if i < 3 then some (w i) else none) = (fun i => if i < 3 then some (ad (19 + i)) else none) := by
    funext i
    by_cases h : i < 3
    · rw [if_pos h, if_pos h]
      rcases (show i = 0 ∨ i = 1 ∨ i = 2 by omega) with rfl | rfl | rfl <;> (subst had; rfl)
    · rw [if_neg h, if_neg h]
  have e3 : (fun _ : Nat => (none : Option Nat)) = lrF 0 la := by
    funext i
    exact (if_neg (Nat.not_lt_zero i)).symm
  rw [e1, e2, e3] at hP hD
  have hP : va_P G vwCl (bkW y ad b00 0 la L) H := by subst had; exact hP
  have hD : va_D A (bkW y ad b00 0 la L) := by subst had; exact hD
  exact W.vret hx hb hr (fun t ht hW => ⟨⟨ad, rfl, by subst had; rfl, by rw [ht]; exact hP, hD⟩, hS.F ht⟩) hS.2.2 dX2_init_103
end
section
/-! ===== calls beside a world (mine) ===== -/
section WR
variable {p : Program} {l : Launch} {e : Env} {R : Room} {s : State} {m : MethodId} {args : Array Value} {below : List Frame} {meth : Method} {c : Code} {H : Heap} {locs : List Loc} {cells slots : Nat} {Q : State → Prop}
variable {cc : ByteArray} {pc : Nat} {ls : Array Slot} {rest st0 : List Value} {G : va_G} {y : Nat → ClassId} {A A0 A1 : Nat → Prop} {H0 : Heap} {a : Nat → Nat} {mc ms : Nat} {free : Addr → Prop} {ag : Array Value}
theorem caXN {S : Type} {rv : S → Option Value} {post : S → Prop} {ws' : S → va_W} {pe : String → Prop} {wx : va_W} (hr : vx_Run p l e R s m args below meth c H locs cells slots mc ms (F0 m pc ls st0) rest (mQ G rv post ws' A1 ag) (xX G pe wx A1) free) (hS : va_S A0 H0 H locs) (hA : ∀ q, A1 q → A0 q) (hf : ∀ q, free q → A0 q)
    (kx : ∀ (E : String) (ce : Cell) (q9 : Addr) (H1 : Heap) (locs1 : List Loc), pe E → va_P G vwCl wx H1 → va_D A1 wx → (∀ q : Nat, q < H.size → ¬ A1 q → H1[q]? = H[q]?) → va_S A0 H0 H1 locs1 → H1[q9]? = some ce → ce.vm = .none → s.vm.findClass E = some ce.cls → vx_W p l e R s m args below meth c H1 locs1 (cells + mc) (slots + ms) Q (F0 m pc ls rest) q9)
    (kk : ∀ (u : S) (H1 : Heap) (locs1 : List Loc), post u → va_P G vwCl (ws' u) H1 → va_D A1 (ws' u) → (∀ q : Nat, q < H.size → ¬ A1 q → H1[q]? = H[q]?) → va_S A0 H0 H1 locs1 → W p l e R s m args below meth c H1 locs1 (cells + mc) (slots + ms) Q (F0 m (pc + 3) ls ((rv u).toList ++ rest))) : W p l e R s m args below meth c H locs cells slots Q (F0 m pc ls st0) := by
  intro T hT X
  rcases hr T hT X with ⟨v, st₀, t, T', L, h0, X', hL, e1, e2, ⟨⟨u, hv, hp, hb, hd⟩, hF⟩, st⟩ | ⟨q, st₀, t, T', L, E, ce, h0, X', hL, e1, e2, ⟨u, -, ⟨hp, hb, hd⟩, hF⟩, hce, hcv, hcl, st⟩
  · cases hv
    obtain ⟨k1, k2, k3⟩ := vx_keep h0 e1 hS (fun q _ h => hA q h) hf hL hF
    obtain ⟨t2, a1, b1⟩ := kk u T'.heap (locs ++ L) hp (by rw [e1]; exact hb) hd k2 k3 T' rfl X'
    exact ⟨t2, st t2 a1, b1⟩
  · obtain ⟨k1, k2, k3⟩ := vx_keep h0 e1 hS (fun q _ h => hA q h) hf hL hF
    obtain ⟨t2, a1, b1⟩ := kx E ce q T'.heap (locs ++ L) hp (by rw [e1]; exact hb) hd k2 k3 (by rw [e1]; exact hce) hcv hcl T' rfl X'
    exact ⟨t2, st.trans a1, b1⟩
end WR
theorem wR {G : va_G} {cl : List vw_C} {w1 w2 : va_W} {H : Heap} (h : va_P G cl (w1 ++ w2) H) : va_P G cl w2 H := fun k q hk => h (w1.length + k) q (by rw [List.getElem?_append_right (Nat.le_add_right _ _), Nat.add_sub_cancel_left]; exact hk)
theorem wRD {A : Nat → Prop} {w1 w2 : va_W} (h : va_D A (w1 ++ w2)) : va_D A w2 := by
  have hr : ∀ (k : Nat) (q : Nat × va_E), w2[k]? = some q → (w1 ++ w2)[w1.length + k]? = some q := fun k q hk => by rw [List.getElem?_append_right (Nat.le_add_right _ _), Nat.add_sub_cancel_left]; exact hk
  exact ⟨fun i j x z hi hj e => by have := h.1 _ _ x z (hr i x hi) (hr j z hj) e; omega, fun k q hk => h.2 _ q (hr k q hk)⟩
theorem rgBE {a : Int32} : (if a = 0 then 1 else 0 : Nat) = 0 ∨ (if a = 0 then 1 else 0 : Nat) = 1 := by split <;> simp
set_option maxHeartbeats 4000000 in
set_option maxRecDepth 100000 in
theorem rg_setCurve (n t : Nat) (b : MS) (L : LNS) (pd : Nat → Nat) (x r : Int32) : (xSetCurve x r) = 0 ∨ (xSetCurve x r) = 1 ∨ (xSetCurve x r) = 2 := by
  unfold xSetCurve
  repeat (first | (left; rfl) | (right; rfl) | (right; left; rfl) | (right; right; rfl) | (right; right; left; rfl) | (right; right; right; rfl) | split)
set_option maxHeartbeats 4000000 in
set_option maxRecDepth 100000 in
theorem rg_setRates (n t : Nat) (b : MS) (L : LNS) (pd : Nat → Nat) (d o9 c0 : Int32) : (xSetRates d o9 c0) = 0 ∨ (xSetRates d o9 c0) = 2 := by
  unfold xSetRates
  repeat (first | (left; rfl) | (right; rfl) | (right; left; rfl) | (right; right; rfl) | (right; right; left; rfl) | (right; right; right; rfl) | split)
set_option maxHeartbeats 4000000 in
set_option maxRecDepth 100000 in
theorem rg_lend (n t : Nat) (b : MS) (L : LNS) (pd : Nat → Nat) (br pr am rt mo op : Int32) : (xLend n br pr am rt mo) = 0 ∨ (xLend n br pr am rt mo) = 1 ∨ (xLend n br pr am rt mo) = 2 ∨ (xLend n br pr am rt mo) = 3 := by
  unfold xLend
  repeat (first | (left; rfl) | (right; rfl) | (right; left; rfl) | (right; right; rfl) | (right; right; left; rfl) | (right; right; right; rfl) | split)
set_option maxHeartbeats 4000000 in
set_option maxRecDepth 100000 in
theorem rg_repay (n t : Nat) (b : MS) (L : LNS) (pd : Nat → Nat) (x : Int32) : (xRepay n L pd x) = 0 ∨ (xRepay n L pd x) = 1 ∨ (xRepay n L pd x) = 3 := by
  unfold xRepay
  repeat (first | (left; rfl) | (right; rfl) | (right; left; rfl) | (right; right; rfl) | (right; right; left; rfl) | (right; right; right; rfl) | split)
set_option maxHeartbeats 4000000 in
set_option maxRecDepth 100000 in
theorem rg_deposit (n t : Nat) (b : MS) (L : LNS) (pd : Nat → Nat) (x ch : Int32) : (xDep b x ch) = 0 ∨ (xDep b x ch) = 1 ∨ (xDep b x ch) = 2 ∨ (xDep b x ch) = 3 := by
  unfold xDep
  repeat (first | (left; rfl) | (right; rfl) | (right; left; rfl) | (right; right; rfl) | (right; right; left; rfl) | (right; right; right; rfl) | split)
set_option maxHeartbeats 4000000 in
set_option maxRecDepth 100000 in
theorem rg_closeMonth (n t : Nat) (b : MS) (L : LNS) (pd : Nat → Nat) (z9 : Int32) : (xClose t) = 0 ∨ (xClose t) = 3 := by
  unfold xClose
  repeat (first | (left; rfl) | (right; rfl) | (right; left; rfl) | (right; right; rfl) | (right; right; left; rfl) | (right; right; right; rfl) | split)
set_option maxHeartbeats 4000000 in
set_option maxRecDepth 100000 in
theorem rg_left (n t : Nat) (b : MS) (L : LNS) (pd : Nat → Nat) (x : Int32) : ((if mIn x 0 (nI n - 1) = 0 then 1 else 0)) = 0 ∨ ((if mIn x 0 (nI n - 1) = 0 then 1 else 0)) = 1 := by
  exact rgBE
set_option maxHeartbeats 4000000 in
set_option maxRecDepth 100000 in
theorem rg_bears (n t : Nat) (b : MS) (L : LNS) (pd : Nat → Nat) (x w : Int32) : (xBears n x w) = 0 ∨ (xBears n x w) = 1 ∨ (xBears n x w) = 2 := by
  unfold xBears
  repeat (first | (left; rfl) | (right; rfl) | (right; left; rfl) | (right; right; rfl) | (right; right; left; rfl) | (right; right; right; rfl) | split)
set_option maxHeartbeats 4000000 in
set_option maxRecDepth 100000 in
theorem rg_due (n t : Nat) (b : MS) (L : LNS) (pd : Nat → Nat) (x : Int32) : (xDue x) = 0 ∨ (xDue x) = 2 := by
  unfold xDue
  repeat (first | (left; rfl) | (right; rfl) | (right; left; rfl) | (right; right; rfl) | (right; right; left; rfl) | (right; right; right; rfl) | split)
set_option maxHeartbeats 4000000 in
set_option maxRecDepth 100000 in
theorem rg_balance (n t : Nat) (b : MS) (L : LNS) (pd : Nat → Nat) (x : Int32) : (x3 x) = 0 ∨ (x3 x) = 1 := by
  unfold x3
  repeat (first | (left; rfl) | (right; rfl) | (right; left; rfl) | (right; right; rfl) | (right; right; left; rfl) | (right; right; right; rfl) | split)
set_option maxHeartbeats 4000000 in
set_option maxRecDepth 100000 in
theorem rg_tranche (n t : Nat) (b : MS) (L : LNS) (pd : Nat → Nat) (x : Int32) : (x6 x) = 0 ∨ (x6 x) = 1 := by
  unfold x6
  repeat (first | (left; rfl) | (right; rfl) | (right; left; rfl) | (right; right; rfl) | (right; right; left; rfl) | (right; right; right; rfl) | split)
set_option maxHeartbeats 4000000 in
set_option maxRecDepth 100000 in
theorem rg_margin (n t : Nat) (b : MS) (L : LNS) (pd : Nat → Nat) (x mo : Int32) : (xMar t x mo) = 0 ∨ (xMar t x mo) = 1 := by
  unfold xMar
  repeat (first | (left; rfl) | (right; rfl) | (right; left; rfl) | (right; right; rfl) | (right; right; left; rfl) | (right; right; right; rfl) | split)
set_option maxHeartbeats 4000000 in
set_option maxRecDepth 100000 in
theorem rg_byProduct (n t : Nat) (b : MS) (L : LNS) (pd : Nat → Nat) (x mo : Int32) : (xMar t x mo) = 0 ∨ (xMar t x mo) = 1 := by
  unfold xMar
  repeat (first | (left; rfl) | (right; rfl) | (right; left; rfl) | (right; right; rfl) | (right; right; left; rfl) | (right; right; right; rfl) | split)
set_option maxHeartbeats 4000000 in
set_option maxRecDepth 100000 in
theorem rg_treasury (n t : Nat) (b : MS) (L : LNS) (pd : Nat → Nat) (mo : Int32) : (xMo t mo) = 0 ∨ (xMo t mo) = 1 := by
  unfold xMo
  repeat (first | (left; rfl) | (right; rfl) | (right; left; rfl) | (right; right; rfl) | (right; right; left; rfl) | (right; right; right; rfl) | split)
set_option maxHeartbeats 4000000 in
set_option maxRecDepth 100000 in
theorem rg_interest (n t : Nat) (b : MS) (L : LNS) (pd : Nat → Nat) (mo : Int32) : (xMo t mo) = 0 ∨ (xMo t mo) = 1 := by
  unfold xMo
  repeat (first | (left; rfl) | (right; rfl) | (right; left; rfl) | (right; right; rfl) | (right; right; left; rfl) | (right; right; right; rfl) | split)
def bz (x : Int32) : Int32 := if x = 0 then 0 else 1
theorem bz01 {x : Int32} : bz x = 0 ∨ bz x = 1 := by unfold bz; split <;> simp
theorem swP {G : va_G} {cl : List vw_C} {w1 w2 : va_W} {H : Heap} (h : va_P G cl (w1 ++ w2) H) : va_P G cl (w2 ++ w1) H := va_P.swap (a := []) h
theorem swD {A : Nat → Prop} {w1 w2 : va_W} (h : va_D A (w1 ++ w2)) : va_D A (w2 ++ w1) := va_D.swap (a := []) h
theorem lcE {a b : Int64} (h : a = b) : lg_cmp a b = 0 := by subst h; unfold lg_cmp; simp [Int64.lt_irrefl]
end
