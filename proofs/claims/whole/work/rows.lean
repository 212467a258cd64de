section
-- ===== PART A: goes FIRST, ahead of the names: the tables' words, and 'selects' of the private methods out of them =====
/-- a private method of a class that the tables say can be made, by its rows of tables_1 -/
def lw_okq (q : MethodName × Nat) : Prop := (q.1.cls ≠ "java/lang/invoke/MethodHandle" ∧ q.1.cls ≠ "java/lang/invoke/VarHandle") ∧ Cond.instantiable q.1.cls q.2 ∈ tables_1 ∧ Cond.privateMethod q.1 ∈ tables_1 ∧ Cond.instanceMethod q.1 ∈ tables_1
theorem lw_p0 : lw_okq (⟨"FundBook$Replica", "averageRate", "()I"⟩, 2) := ⟨⟨by decide +kernel, by decide +kernel⟩, List.mem_of_getElem? (i := 22) (by decide +kernel), List.mem_of_getElem? (i := 91) (by decide +kernel), List.mem_of_getElem? (i := 92) (by decide +kernel)⟩
theorem lw_p1 : lw_okq (⟨"java/lang/Throwable", "fillInStackTrace", "(I)Ljava/lang/Throwable;"⟩, 6) := ⟨⟨by decide +kernel, by decide +kernel⟩, List.mem_of_getElem? (i := 142) (by decide +kernel), List.mem_of_getElem? (i := 140) (by decide +kernel), List.mem_of_getElem? (i := 141) (by decide +kernel)⟩
theorem lw_p2 : lw_okq (⟨"FundBook", "findLoan", "(I)LFundBook$Loan;"⟩, 13) := ⟨⟨by decide +kernel, by decide +kernel⟩, List.mem_of_getElem? (i := 12) (by decide +kernel), List.mem_of_getElem? (i := 276) (by decide +kernel), List.mem_of_getElem? (i := 277) (by decide +kernel)⟩
theorem lw_p3 : lw_okq (⟨"FundBook$Loan", "unpaid", "()I"⟩, 8) := ⟨⟨by decide +kernel, by decide +kernel⟩, List.mem_of_getElem? (i := 228) (by decide +kernel), List.mem_of_getElem? (i := 281) (by decide +kernel), List.mem_of_getElem? (i := 282) (by decide +kernel)⟩
theorem lw_p4 : lw_okq (⟨"FundBook$Loan", "settle", "()V"⟩, 8) := ⟨⟨by decide +kernel, by decide +kernel⟩, List.mem_of_getElem? (i := 228) (by decide +kernel), List.mem_of_getElem? (i := 286) (by decide +kernel), List.mem_of_getElem? (i := 287) (by decide +kernel)⟩
theorem lw_p5 : lw_okq (⟨"FundBook", "trancheAmount", "()I"⟩, 13) := ⟨⟨by decide +kernel, by decide +kernel⟩, List.mem_of_getElem? (i := 12) (by decide +kernel), List.mem_of_getElem? (i := 301) (by decide +kernel), List.mem_of_getElem? (i := 302) (by decide +kernel)⟩
theorem lw_p6 : lw_okq (⟨"FundBook", "coreOf", "(J)I"⟩, 13) := ⟨⟨by decide +kernel, by decide +kernel⟩, List.mem_of_getElem? (i := 12) (by decide +kernel), List.mem_of_getElem? (i := 305) (by decide +kernel), List.mem_of_getElem? (i := 306) (by decide +kernel)⟩
theorem lw_p7 : lw_okq (⟨"FundBook$Replica", "layAll", "(II)V"⟩, 2) := ⟨⟨by decide +kernel, by decide +kernel⟩, List.mem_of_getElem? (i := 22) (by decide +kernel), List.mem_of_getElem? (i := 310) (by decide +kernel), List.mem_of_getElem? (i := 311) (by decide +kernel)⟩
theorem lw_p8 : lw_okq (⟨"FundBook$Replica", "lay", "(III)V"⟩, 2) := ⟨⟨by decide +kernel, by decide +kernel⟩, List.mem_of_getElem? (i := 22) (by decide +kernel), List.mem_of_getElem? (i := 314) (by decide +kernel), List.mem_of_getElem? (i := 315) (by decide +kernel)⟩
theorem lw_p9 : lw_okq (⟨"FundBook", "reckonLoans", "()V"⟩, 13) := ⟨⟨by decide +kernel, by decide +kernel⟩, List.mem_of_getElem? (i := 12) (by decide +kernel), List.mem_of_getElem? (i := 326) (by decide +kernel), List.mem_of_getElem? (i := 327) (by decide +kernel)⟩
theorem lw_p10 : lw_okq (⟨"FundBook", "loanMarginsOfBranch", "(I)I"⟩, 13) := ⟨⟨by decide +kernel, by decide +kernel⟩, List.mem_of_getElem? (i := 12) (by decide +kernel), List.mem_of_getElem? (i := 330) (by decide +kernel), List.mem_of_getElem? (i := 331) (by decide +kernel)⟩
theorem lw_p11 : lw_okq (⟨"FundBook$Loan", "ownMargin", "()I"⟩, 8) := ⟨⟨by decide +kernel, by decide +kernel⟩, List.mem_of_getElem? (i := 228) (by decide +kernel), List.mem_of_getElem? (i := 334) (by decide +kernel), List.mem_of_getElem? (i := 335) (by decide +kernel)⟩
theorem lw_p12 : lw_okq (⟨"FundBook$Loan", "customerInterest", "()I"⟩, 8) := ⟨⟨by decide +kernel, by decide +kernel⟩, List.mem_of_getElem? (i := 228) (by decide +kernel), List.mem_of_getElem? (i := 338) (by decide +kernel), List.mem_of_getElem? (i := 339) (by decide +kernel)⟩
theorem lw_p13 : lw_okq (⟨"FundBook$Loan", "funding", "()I"⟩, 8) := ⟨⟨by decide +kernel, by decide +kernel⟩, List.mem_of_getElem? (i := 228) (by decide +kernel), List.mem_of_getElem? (i := 347) (by decide +kernel), List.mem_of_getElem? (i := 348) (by decide +kernel)⟩
theorem lw_p14 : lw_okq (⟨"FundBook$Loan", "optionCharge", "()I"⟩, 8) := ⟨⟨by decide +kernel, by decide +kernel⟩, List.mem_of_getElem? (i := 228) (by decide +kernel), List.mem_of_getElem? (i := 351) (by decide +kernel), List.mem_of_getElem? (i := 352) (by decide +kernel)⟩
theorem lw_p15 : lw_okq (⟨"FundBook", "loanMarginsOfProduct", "(I)I"⟩, 13) := ⟨⟨by decide +kernel, by decide +kernel⟩, List.mem_of_getElem? (i := 12) (by decide +kernel), List.mem_of_getElem? (i := 355) (by decide +kernel), List.mem_of_getElem? (i := 356) (by decide +kernel)⟩
def lw_privs_1 : List (MethodName × Nat) := [(⟨"FundBook$Replica", "averageRate", "()I"⟩, 2), (⟨"java/lang/Throwable", "fillInStackTrace", "(I)Ljava/lang/Throwable;"⟩, 6), (⟨"FundBook", "findLoan", "(I)LFundBook$Loan;"⟩, 13), (⟨"FundBook$Loan", "unpaid", "()I"⟩, 8), (⟨"FundBook$Loan", "settle", "()V"⟩, 8), (⟨"FundBook", "trancheAmount", "()I"⟩, 13), (⟨"FundBook", "coreOf", "(J)I"⟩, 13), (⟨"FundBook$Replica", "layAll", "(II)V"⟩, 2), (⟨"FundBook$Replica", "lay", "(III)V"⟩, 2), (⟨"FundBook", "reckonLoans", "()V"⟩, 13), (⟨"FundBook", "loanMarginsOfBranch", "(I)I"⟩, 13), (⟨"FundBook$Loan", "ownMargin", "()I"⟩, 8), (⟨"FundBook$Loan", "customerInterest", "()I"⟩, 8), (⟨"FundBook$Loan", "funding", "()I"⟩, 8), (⟨"FundBook$Loan", "optionCharge", "()I"⟩, 8), (⟨"FundBook", "loanMarginsOfProduct", "(I)I"⟩, 13)]
theorem lw_r1 : ∀ q ∈ lw_privs_1, lw_okq q := List.forall_mem_cons.mpr ⟨lw_p0, List.forall_mem_cons.mpr ⟨lw_p1, List.forall_mem_cons.mpr ⟨lw_p2, List.forall_mem_cons.mpr ⟨lw_p3, List.forall_mem_cons.mpr ⟨lw_p4, List.forall_mem_cons.mpr ⟨lw_p5, List.forall_mem_cons.mpr ⟨lw_p6, List.forall_mem_cons.mpr ⟨lw_p7, List.forall_mem_cons.mpr ⟨lw_p8, List.forall_mem_cons.mpr ⟨lw_p9, List.forall_mem_cons.mpr ⟨lw_p10, List.forall_mem_cons.mpr ⟨lw_p11, List.forall_mem_cons.mpr ⟨lw_p12, List.forall_mem_cons.mpr ⟨lw_p13, List.forall_mem_cons.mpr ⟨lw_p14, List.forall_mem_cons.mpr ⟨lw_p15, fun _ h => absurd h List.not_mem_nil⟩⟩⟩⟩⟩⟩⟩⟩⟩⟩⟩⟩⟩⟩⟩⟩
theorem lw_p16 : lw_okq (⟨"FundBook", "reckonDeposits", "()V"⟩, 13) := ⟨⟨by decide +kernel, by decide +kernel⟩, List.mem_of_getElem? (i := 12) (by decide +kernel), List.mem_of_getElem? (i := 362) (by decide +kernel), List.mem_of_getElem? (i := 363) (by decide +kernel)⟩
theorem lw_p17 : lw_okq (⟨"FundBook", "paidForDeposits", "(II)I"⟩, 13) := ⟨⟨by decide +kernel, by decide +kernel⟩, List.mem_of_getElem? (i := 12) (by decide +kernel), List.mem_of_getElem? (i := 366) (by decide +kernel), List.mem_of_getElem? (i := 367) (by decide +kernel)⟩
theorem lw_p18 : lw_okq (⟨"FundBook", "payParts", "()V"⟩, 13) := ⟨⟨by decide +kernel, by decide +kernel⟩, List.mem_of_getElem? (i := 12) (by decide +kernel), List.mem_of_getElem? (i := 371) (by decide +kernel), List.mem_of_getElem? (i := 372) (by decide +kernel)⟩
theorem lw_p19 : lw_okq (⟨"FundBook$Loan", "payPart", "()V"⟩, 8) := ⟨⟨by decide +kernel, by decide +kernel⟩, List.mem_of_getElem? (i := 228) (by decide +kernel), List.mem_of_getElem? (i := 375) (by decide +kernel), List.mem_of_getElem? (i := 376) (by decide +kernel)⟩
theorem lw_p20 : lw_okq (⟨"FundBook$Loan", "partAhead", "(I)I"⟩, 8) := ⟨⟨by decide +kernel, by decide +kernel⟩, List.mem_of_getElem? (i := 228) (by decide +kernel), List.mem_of_getElem? (i := 403) (by decide +kernel), List.mem_of_getElem? (i := 404) (by decide +kernel)⟩
theorem lw_p21 : lw_okq (⟨"FundBook", "hasEnded", "(I)Z"⟩, 13) := ⟨⟨by decide +kernel, by decide +kernel⟩, List.mem_of_getElem? (i := 12) (by decide +kernel), List.mem_of_getElem? (i := 429) (by decide +kernel), List.mem_of_getElem? (i := 430) (by decide +kernel)⟩
theorem lw_p22 : lw_okq (⟨"FundBookModel", "fails", "(I)I"⟩, 22) := ⟨⟨by decide +kernel, by decide +kernel⟩, List.mem_of_getElem? (i := 457) (by decide +kernel), List.mem_of_getElem? (i := 542) (by decide +kernel), List.mem_of_getElem? (i := 543) (by decide +kernel)⟩
theorem lw_p23 : lw_okq (⟨"FundBookModel", "isLoan", "(I)Z"⟩, 22) := ⟨⟨by decide +kernel, by decide +kernel⟩, List.mem_of_getElem? (i := 457) (by decide +kernel), List.mem_of_getElem? (i := 562) (by decide +kernel), List.mem_of_getElem? (i := 563) (by decide +kernel)⟩
theorem lw_p24 : lw_okq (⟨"FundBookModel", "leftOf", "(I)I"⟩, 22) := ⟨⟨by decide +kernel, by decide +kernel⟩, List.mem_of_getElem? (i := 457) (by decide +kernel), List.mem_of_getElem? (i := 566) (by decide +kernel), List.mem_of_getElem? (i := 567) (by decide +kernel)⟩
theorem lw_p25 : lw_okq (⟨"FundBookModel", "lays", "(I)V"⟩, 22) := ⟨⟨by decide +kernel, by decide +kernel⟩, List.mem_of_getElem? (i := 457) (by decide +kernel), List.mem_of_getElem? (i := 575) (by decide +kernel), List.mem_of_getElem? (i := 576) (by decide +kernel)⟩
theorem lw_p26 : lw_okq (⟨"FundBookModel", "core", "()I"⟩, 22) := ⟨⟨by decide +kernel, by decide +kernel⟩, List.mem_of_getElem? (i := 457) (by decide +kernel), List.mem_of_getElem? (i := 579) (by decide +kernel), List.mem_of_getElem? (i := 580) (by decide +kernel)⟩
theorem lw_p27 : lw_okq (⟨"FundBookModel", "bear", "(II)I"⟩, 22) := ⟨⟨by decide +kernel, by decide +kernel⟩, List.mem_of_getElem? (i := 457) (by decide +kernel), List.mem_of_getElem? (i := 588) (by decide +kernel), List.mem_of_getElem? (i := 589) (by decide +kernel)⟩
theorem lw_p28 : lw_okq (⟨"FundBookModel", "isPaid", "(I)I"⟩, 22) := ⟨⟨by decide +kernel, by decide +kernel⟩, List.mem_of_getElem? (i := 457) (by decide +kernel), List.mem_of_getElem? (i := 593) (by decide +kernel), List.mem_of_getElem? (i := 594) (by decide +kernel)⟩
theorem lw_p29 : lw_okq (⟨"FundBookModel", "replica", "()I"⟩, 22) := ⟨⟨by decide +kernel, by decide +kernel⟩, List.mem_of_getElem? (i := 457) (by decide +kernel), List.mem_of_getElem? (i := 597) (by decide +kernel), List.mem_of_getElem? (i := 598) (by decide +kernel)⟩
theorem lw_p30 : lw_okq (⟨"FundBookModel", "pays", "(I)I"⟩, 22) := ⟨⟨by decide +kernel, by decide +kernel⟩, List.mem_of_getElem? (i := 457) (by decide +kernel), List.mem_of_getElem? (i := 601) (by decide +kernel), List.mem_of_getElem? (i := 602) (by decide +kernel)⟩
theorem lw_p31 : lw_okq (⟨"FundBookModel", "isEnded", "(I)Z"⟩, 22) := ⟨⟨by decide +kernel, by decide +kernel⟩, List.mem_of_getElem? (i := 457) (by decide +kernel), List.mem_of_getElem? (i := 641) (by decide +kernel), List.mem_of_getElem? (i := 642) (by decide +kernel)⟩
def lw_privs_2 : List (MethodName × Nat) := [(⟨"FundBook", "reckonDeposits", "()V"⟩, 13), (⟨"FundBook", "paidForDeposits", "(II)I"⟩, 13), (⟨"FundBook", "payParts", "()V"⟩, 13), (⟨"FundBook$Loan", "payPart", "()V"⟩, 8), (⟨"FundBook$Loan", "partAhead", "(I)I"⟩, 8), (⟨"FundBook", "hasEnded", "(I)Z"⟩, 13), (⟨"FundBookModel", "fails", "(I)I"⟩, 22), (⟨"FundBookModel", "isLoan", "(I)Z"⟩, 22), (⟨"FundBookModel", "leftOf", "(I)I"⟩, 22), (⟨"FundBookModel", "lays", "(I)V"⟩, 22), (⟨"FundBookModel", "core", "()I"⟩, 22), (⟨"FundBookModel", "bear", "(II)I"⟩, 22), (⟨"FundBookModel", "isPaid", "(I)I"⟩, 22), (⟨"FundBookModel", "replica", "()I"⟩, 22), (⟨"FundBookModel", "pays", "(I)I"⟩, 22), (⟨"FundBookModel", "isEnded", "(I)Z"⟩, 22)]
theorem lw_r2 : ∀ q ∈ lw_privs_2, lw_okq q := List.forall_mem_cons.mpr ⟨lw_p16, List.forall_mem_cons.mpr ⟨lw_p17, List.forall_mem_cons.mpr ⟨lw_p18, List.forall_mem_cons.mpr ⟨lw_p19, List.forall_mem_cons.mpr ⟨lw_p20, List.forall_mem_cons.mpr ⟨lw_p21, List.forall_mem_cons.mpr ⟨lw_p22, List.forall_mem_cons.mpr ⟨lw_p23, List.forall_mem_cons.mpr ⟨lw_p24, List.forall_mem_cons.mpr ⟨lw_p25, List.forall_mem_cons.mpr ⟨lw_p26, List.forall_mem_cons.mpr ⟨lw_p27, List.forall_mem_cons.mpr ⟨lw_p28, List.forall_mem_cons.mpr ⟨lw_p29, List.forall_mem_cons.mpr ⟨lw_p30, List.forall_mem_cons.mpr ⟨lw_p31, fun _ h => absurd h List.not_mem_nil⟩⟩⟩⟩⟩⟩⟩⟩⟩⟩⟩⟩⟩⟩⟩⟩
def lw_privs : List (MethodName × Nat) := lw_privs_1 ++ (lw_privs_2)
def lw_tbl : List Cond := k2_sels lw_privs ++ tables_1
theorem lw_privs_ok : ∀ q ∈ lw_privs, lw_okq q := by
  show ∀ q ∈ lw_privs_1 ++ (lw_privs_2), lw_okq q
  exact List.forall_mem_append.mpr ⟨lw_r1, lw_r2⟩
-- ===== end of PART A; then your names; then what follows =====
end
section
/-! ===== BEGIN words of one list among another's, by their places ===== -/
theorem goodIn_r {big : List Cond} (ws : List Cond) (ps : List Nat) (hp : ws = ps.filterMap (fun i => big[i]?)) (h : ws.all goodWord = true) : GoodIn big ws := by
  intro w hw
  have h1 := List.all_eq_true.mp h w hw
  rw [hp] at hw
  obtain ⟨i, -, hi⟩ := List.mem_filterMap.mp hw
  have hm : w ∈ big := by first | exact List.mem_of_getElem? hi | exact List.getElem?_mem hi
  exact ⟨hm, good_of_word h1⟩
theorem goodIn_app {big a b : List Cond} (ha : GoodIn big a) (hb : GoodIn big b) : GoodIn big (a ++ b) := fun w h => (List.mem_append.mp h).elim (ha w) (hb w)
theorem goodIn_ca {big a b : List Cond} {c : Cond} (ha : GoodIn big (c :: a)) (hb : GoodIn big b) : GoodIn big (c :: (a ++ b)) := fun w h => (List.mem_cons.mp h).elim (fun e => ha w (List.mem_cons.mpr (Or.inl e))) (fun h => (List.mem_append.mp h).elim (fun h => ha w (List.mem_cons.mpr (Or.inr h))) (hb w))
theorem goodIn_sub {big ws : List Cond} (hm : ∀ w ∈ ws, w ∈ big) (h : ws.all goodWord = true) : GoodIn big ws := fun w hw => ⟨hm w hw, good_of_word (List.all_eq_true.mp h w hw)⟩
/-! ===== END ===== -/

/-! ===== BEGIN new T[n][m]: the outer array a place, the inner ones among the pooled ===== -/
/-- f, but v at every address of l -/
def vr_up {α : Type} (f : Nat → α) (l : List Nat) (v : α) : Nat → α := fun a => if a ∈ l then v else f a
theorem vr_up_in {α : Type} {f : Nat → α} {l : List Nat} {v : α} {a : Nat} (h : a ∈ l) : vr_up f l v a = v := if_pos h
theorem vr_up_ne {α : Type} {f : Nat → α} {l : List Nat} {v : α} {a : Nat} (h : a ∉ l) : vr_up f l v a = f a := if_neg h
theorem vr_rows {L l : List Nat} {f : Nat → va_E} {e : va_E} (h : ∀ a, a ∈ l → a ∉ L) : va_pl L f ++ l.map (fun a => (a, e)) = va_pl (L ++ l) (vr_up f l e) := by
  unfold va_pl
  rw [List.map_append]
  congr 1
  · apply List.map_congr_left
    intro a ha
    rw [vr_up_ne (fun q => h a q ha)]
  · apply List.map_congr_left
    intro a ha
    rw [vr_up_in ha]
theorem vr_lay {X rows : va_W} {x : Nat × va_E} {pl : va_W} {D : va_G} {cl : List vw_C} {H : Heap} (hP : va_P D cl (((X ++ pl) ++ [x]) ++ rows) H) : va_P D cl ((X ++ [x]) ++ (pl ++ rows)) H := by
  rw [List.append_assoc (X ++ pl)] at hP
  have h := va_P.swap hP
  rw [← List.append_assoc X] at h
  have h2 := va_P.swap h
  rw [List.append_assoc (X ++ [x])] at h2
  exact h2
theorem vr_layD {X rows : va_W} {x : Nat × va_E} {pl : va_W} {A : Nat → Prop} (hD : va_D A (((X ++ pl) ++ [x]) ++ rows)) : va_D A ((X ++ [x]) ++ (pl ++ rows)) := by
  rw [List.append_assoc (X ++ pl)] at hD
  have h := va_D.swap hD
  rw [← List.append_assoc X] at h
  have h2 := va_D.swap h
  rw [List.append_assoc (X ++ [x])] at h2
  exact h2
theorem vr_outer (c : ClassId) (N h0 : Nat) : ∀ i : Nat, Jvm.Free.Multi.outerC c N h0 i = arrV c N (fun j => va_rf (if j < i then some (h0 + 1 + j) else none))
  | 0 => by
    show ({ cls := c, slots := Array.replicate N .null, vm := .none } : Cell) = _
    rw [arrV_new]
    refine congrArg (arrV c N) (funext fun j => ?_)
    simp [va_rf]
  | i + 1 => by
    show (Jvm.Free.Multi.outerC c N h0 i).setSlot i (.ref (h0 + 1 + i)) = _
    rw [vr_outer c N h0 i, arrV_store]
    refine congrArg (arrV c N) (funext fun j => ?_)
    by_cases e : j = i
    · subst e
      simp [updV, va_rf]
    · by_cases h : j < i
      · simp [updV, e, h, Nat.lt_succ_of_lt h]
      · simp [updV, e, h, show ¬ j < i + 1 by omega]
/-- mine: that the array class over T[] is known, said without the call's arguments -/
def va_AOA (t : FieldType) (U : State) : Prop := (Cond.arrayOver (.array t)).before #[] U = true
theorem va_AOA.use {t : FieldType} {A : Array Value} {U : State} (h : va_AOA t U) : (Cond.arrayOver (.array t)).before A U = true := h
section VGM
variable {p : Program} {l : Launch} {e : Env} {R : Room} {s : State} {m : MethodId} {args : Array Value} {below : List Frame} {meth : Method} {c : Code} {H : Heap} {locs : List Loc} {cells slots : Nat} {Q : State → Prop}
variable {cc : ByteArray} {pc : Nat} {ls : Array Slot} {rest : List Value} {D : va_G} {cl : List vw_C} {A : Nat → Prop} {a : Nat} {tys : List (ClassId × FieldType)} {ws : va_W} {H0 : Heap}
theorem va_mna {X : va_W} {L : List Nat} {f : Nat → va_E} {cc : ByteArray} (hexec : p.tables.exec = Jvm.exec) (hb : c.code = cc) {own : String} {index : Nat} {ty : FieldType} {cy : ClassId} (hown : s.vm.findClass own = some m.cls) (hclink : (Cond.classLink own index ("[" ++ (FieldType.array ty).toString)).before args s = true) (hover : va_AOA ty s) (harr : (Cond.arrayClass ty).before args s = true) (hcy : s.vm.findClass (FieldType.array ty).toString = some cy)
    (hK : va_K D cl tys s) (hP : va_P D cl (X ++ va_pl L f) H) (hD : va_D A (X ++ va_pl L f)) (hS : va_S A H0 H locs) (hA : ∀ q, H0.size ≤ q → A q) {n k : Int32} {N' K' : Nat} {z : vp_A} (hn : ¬ n < 0) (hk : ¬ k < 0) (hN : n.toNatClampNeg = N') (hM : k.toNatClampNeg = K')
    (hb1 : N' * 4 ≤ 536870912) (hb2 : K' * componentBytes ty ≤ 536870912) (hb3 : K' ≤ 536870912) (hdf : fits ty (defaultValue ty) = true) (hdd : (defaultValue ty).isDefault = true) (hcells : cells + (1 + N') ≤ R.cells) (hslots : slots + (N' + N' * K') ≤ R.slots) (hz : ∀ c : ClassId, Jvm.Free.Multi.innerC c K' (defaultValue ty) = vp_cell c z) (hdg : decode cc pc = .ok (.multianewarray index 2, 4))
    (kk : ∀ (q : Nat) (r : Nat → Nat) (cA : ClassId) (H1 : Heap), (∀ i j : Nat, i < N' → j < N' → r i = r j → i = j) → (∀ i : Nat, i < N' → r i ∉ L) → va_K D cl (tys ++ [(cA, .array ty)]) s →
      va_P D cl ((X ++ [(q, .inl (cA, N', .inr (.inr (.inr (.inr (fun i => if i < N' then some (r i) else none))))))]) ++ va_pl (L ++ (List.range N').map r) (vr_up f ((List.range N').map r) (.inl (cy, z)))) H1 → va_D A ((X ++ [(q, .inl (cA, N', .inr (.inr (.inr (.inr (fun i => if i < N' then some (r i) else none))))))]) ++ va_pl (L ++ (List.range N').map r) (vr_up f ((List.range N').map r) (.inl (cy, z)))) → va_S A H0 H1 locs →
      W p l e R s m args below meth c H1 locs (cells + 1 + N') (slots + N' + N' * K') Q (F0 m (pc + 4) ls (.ref q :: rest))) : W p l e R s m args below meth c H locs cells slots Q (F0 m pc ls (.int k :: .int n :: rest)) := by
  subst hN
  subst hM
  intro T hT Xs
  obtain ⟨vm₁, cA, comp, -, fA, fC, hO, -, X', step⟩ := Xs.multianewarray2F hexec hown hclink (va_AOA.use hover) harr (g := F0 m pc ls (.int k :: .int n :: rest)) rfl (by rw [hb]; exact hdg) rfl hn hk hb1 hb2 hb3 hdf hdd hcells hslots
  have ec : some cy = some comp := hcy.symm.trans fC
  cases ec
  generalize hF : Jvm.Free.Multi.fill (T.setVm vm₁) cA cy n.toNatClampNeg k.toNatClampNeg (defaultValue ty) n.toNatClampNeg = F at X' step
  have hTh : (T.setVm vm₁).heap = H := hT
  obtain ⟨f1, f2, -, -⟩ := Jvm.Free.Multi.fill_facts (T.setVm vm₁) cA cy n.toNatClampNeg k.toNatClampNeg (defaultValue ty) n.toNatClampNeg
  rw [hF, hTh] at f1 f2
  have hold : ∀ x : Nat, x < H.size → F.heap[x]? = H[x]? := fun x hx => by
    have := Jvm.Free.Multi.fill_old (T.setVm vm₁) cA cy n.toNatClampNeg k.toNatClampNeg (defaultValue ty) (a := x) (by rw [hTh]; exact hx) n.toNatClampNeg
    rw [hF, hTh] at this
    exact this
  have hrow : ∀ j : Nat, j < n.toNatClampNeg → F.heap[H.size + 1 + j]? = some (vp_cell cy z) := fun j hj => by
    have := Jvm.Free.Multi.fill_inner (T.setVm vm₁) cA cy n.toNatClampNeg k.toNatClampNeg (defaultValue ty) n.toNatClampNeg j hj
    rw [hF, hTh, hz] at this
    exact this
  have hout : Jvm.Free.Multi.outerC cA n.toNatClampNeg H.size n.toNatClampNeg = vp_cell cA (n.toNatClampNeg, .inr (.inr (.inr (.inr (fun i => if i < n.toNatClampNeg then some (H.size + 1 + i) else none))))) := by
    rw [vp_cell_q]
    exact vr_outer cA n.toNatClampNeg H.size n.toNatClampNeg
  rw [hout] at f2
  have hlt : ∀ a, a ∈ L → a < H.size := fun a ha => by
    obtain ⟨k9, hk9⟩ := va_pl_get (X := X) (f := f) ha
    exact (hP k9 _ hk9).lt
  have hnl : ∀ i : Nat, i < n.toNatClampNeg → H.size + 1 + i ∉ L := fun i _ h => by
    have := hlt _ h
    omega
  have hnm : ∀ a, a ∈ (List.range n.toNatClampNeg).map (fun i => H.size + 1 + i) → a ∉ L := fun a ha h => by
    obtain ⟨i, -, rfl⟩ := List.mem_map.mp ha
    have := hlt _ h
    omega
  have hP0 : va_P D cl (X ++ va_pl L f) F.heap := hP.kept (fun k9 x hx => hold x.1 ((hP k9 x hx).lt))
  have hP1 : va_P D cl ((X ++ va_pl L f) ++ [(H.size, .inl (cA, n.toNatClampNeg, .inr (.inr (.inr (.inr (fun i => if i < n.toNatClampNeg then some (H.size + 1 + i) else none))))))]) F.heap := hP0.app (fun k9 x hx => by
    have h0 : k9 < 1 := (List.getElem?_eq_some_iff.mp hx).1
    rw [show k9 = 0 by omega] at hx
    cases hx
    exact f2)
  have hP2 : va_P D cl (((X ++ va_pl L f) ++ [(H.size, .inl (cA, n.toNatClampNeg, .inr (.inr (.inr (.inr (fun i => if i < n.toNatClampNeg then some (H.size + 1 + i) else none))))))]) ++ ((List.range n.toNatClampNeg).map (fun i => H.size + 1 + i)).map (fun a => (a, .inl (cy, z)))) F.heap := hP1.app (fun k9 x hx => by
    obtain ⟨a, ha, rfl⟩ := List.mem_map.mp (List.mem_of_getElem? hx)
    obtain ⟨i, hi, rfl⟩ := List.mem_map.mp ha
    exact hrow i (List.mem_range.mp hi))
  have hD2 : va_D A (((X ++ va_pl L f) ++ [(H.size, .inl (cA, n.toNatClampNeg, .inr (.inr (.inr (.inr (fun i => if i < n.toNatClampNeg then some (H.size + 1 + i) else none))))))]) ++ ((List.range n.toNatClampNeg).map (fun i => H.size + 1 + i)).map (fun a => (a, .inl (cy, z)))) := by
    have hD1 := hD.push (e := .inl (cA, n.toNatClampNeg, .inr (.inr (.inr (.inr (fun i => if i < n.toNatClampNeg then some (H.size + 1 + i) else none)))))) hP rfl (hA _ hS.1)
    generalize hW1 : (X ++ va_pl L f) ++ [(H.size, .inl (cA, n.toNatClampNeg, .inr (.inr (.inr (.inr (fun i => if i < n.toNatClampNeg then some (H.size + 1 + i) else none))))))] = W1 at hD1 hP1 ⊢
    have hle : ∀ (k9 : Nat) (x : Nat × va_E), W1[k9]? = some x → x.1 ≤ H.size := fun k9 x hx => by
      rw [← hW1] at hx
      by_cases hl : k9 < (X ++ va_pl L f).length
      · rw [List.getElem?_append_left hl] at hx
        exact Nat.le_of_lt ((hP k9 x hx).lt)
      · rw [List.getElem?_append_right (by omega)] at hx
        have h0 : k9 - (X ++ va_pl L f).length < 1 := (List.getElem?_eq_some_iff.mp hx).1
        rw [show k9 - (X ++ va_pl L f).length = 0 by omega] at hx
        cases hx
        exact Nat.le_refl _
    have hr : ∀ (k9 : Nat) (x : Nat × va_E), (((List.range n.toNatClampNeg).map (fun i => H.size + 1 + i)).map (fun a => ((a, .inl (cy, z)) : Nat × va_E)))[k9]? = some x → x.1 = H.size + 1 + k9 := fun k9 x hx => by
      rw [List.getElem?_map, List.getElem?_map] at hx
      by_cases h9 : k9 < n.toNatClampNeg
      · rw [List.getElem?_range h9] at hx
        cases hx
        rfl
      · have hn0 : (List.range n.toNatClampNeg)[k9]? = none := List.getElem?_eq_none (by rw [List.length_range]; omega)
        rw [hn0] at hx
        cases hx
    refine ⟨fun i j x y hi hj hxy => ?_, fun k9 x hx => ?_⟩
    · by_cases h1 : i < W1.length <;> by_cases h2 : j < W1.length
      · rw [List.getElem?_append_left h1] at hi
        rw [List.getElem?_append_left h2] at hj
        exact hD1.1 i j x y hi hj hxy
      · rw [List.getElem?_append_left h1] at hi
        rw [List.getElem?_append_right (by omega)] at hj
        have := hle _ _ hi
        have := hr _ _ hj
        omega
      · rw [List.getElem?_append_right (by omega)] at hi
        rw [List.getElem?_append_left h2] at hj
        have := hle _ _ hj
        have := hr _ _ hi
        omega
      · rw [List.getElem?_append_right (by omega)] at hi hj
        have := hr _ _ hi
        have := hr _ _ hj
        omega
    · by_cases h1 : k9 < W1.length
      · rw [List.getElem?_append_left h1] at hx
        exact hD1.2 k9 x hx
      · rw [List.getElem?_append_right (by omega)] at hx
        have := hr _ _ hx
        exact hA _ (by have := hS.1; omega)
  have hAr : ArrOfT s cA (.array ty) := fun N9 z9 => by
    obtain ⟨-, k9, hk9, cm9, hkk9⟩ := (hO 0 0 0).1
    exact ⟨(fun q hq => by cases hq), k9, hk9, cm9, hkk9⟩
  have hK2 : va_K D cl (tys ++ [(cA, .array ty)]) s := ⟨hK.1, fun k9 x hx => by
    by_cases hl : k9 < tys.length
    · rw [List.getElem?_append_left hl] at hx
      exact hK.2 k9 x hx
    · rw [List.getElem?_append_right (by omega)] at hx
      have h0 : k9 - tys.length < 1 := (List.getElem?_eq_some_iff.mp hx).1
      rw [show k9 - tys.length = 0 by omega] at hx
      cases hx
      exact ⟨hAr, fA⟩⟩
  obtain ⟨t, a1, b1⟩ := kk H.size (fun i => H.size + 1 + i) cA F.heap (fun i j _ _ h => by have h9 : H.size + 1 + i = H.size + 1 + j := h; omega) hnl hK2 (by rw [← vr_rows hnm]; exact vr_lay hP2) (by rw [← vr_rows hnm]; exact vr_layD hD2) ⟨by rw [f1]; have := hS.1; omega, fun x h1 h2 => (hold x (Nat.lt_of_lt_of_le h1 hS.1)).trans (hS.2.1 x h1 h2), hS.2.2⟩ F rfl X'
  refine ⟨t, step t ?_, b1⟩
  have e : T.heap.size = H.size := by rw [hT]
  rw [e]
  exact a1
end VGM
/-! ===== END ===== -/

/-! ===== BEGIN exceptions that leave a method, and their catching by the caller (launches without stack traces) ===== -/
section VXA
/-! The laws vx_back, vx_callV, vx_callS, vx_callSW, vx_throw0, vx_throwS follow proofs of the library, with one case more: JvmDerived/Free/Laws.lean (Back.of_free), Shelf42/LK1.lean (callV, callS), Shelf/KitTraced.lean (throwNew0V, throwNewS). -/
/-- where a method has thrown q: the class by its name, the cell, what was written, the world -/
def vx_T (XC : String → State → State → Prop) (st : State) (q : Addr) (t : State) (mc ms : Nat) (free : Addr → Prop) : Prop :=
  ∃ (E : String) (ce : Cell) (L : List Loc), XC E st t ∧ t.heap[q]? = some ce ∧ ce.vm = .none ∧ st.vm.findClass E = some ce.cls ∧ st.WarmedH t.vm ∧ st.sameButNew ({ t with vm := st.vm } : State) L mc ms ∧ ∀ z ∈ L, free z.base
def vx_Q (Qc : Array Value → State → Outcome → State → Prop) (XC : String → State → State → Prop) (mc ms : Nat) (free : Addr → Prop) : Array Value → State → Outcome → State → Prop := fun a st o t =>
  (Qc a st o t ∧ ∃ L, FrameEnd st o t L mc ms ∧ ∀ q ∈ L, free q.base) ∨ ∃ q, o = .threw q ∧ vx_T XC st q t mc ms free
/-- a callee that returns or throws -/
def vx_Met (l : Launch) (y : MethodName) (ws : List Cond) (rm : Room) (Pc : Array Value → State → Prop) (Qc : Array Value → State → Outcome → State → Prop) (XC : String → State → State → Prop) (mc ms : Nat) (free : Addr → Prop) : Prop :=
  MetFree l y (headSpec ws rm) Pc (fun _ _ _ _ _ => True) (vx_Q Qc XC mc ms free)
def vx_Post (XC : String → State → State → Prop) (mc ms : Nat) (free : Addr → Prop) : Pt → Array Value → Addr → Pt → Prop := fun A a q B =>
  ∃ (g : JFrame) (mk : MethodId) (t : State) (L : List Loc) (E : String) (ce : Cell), B.U.heap = t.heap ∧ B.U.vm = t.vm ∧ XC E (A.U.calling g mk a) t ∧ t.heap[q]? = some ce ∧ ce.vm = .none ∧ A.U.vm.findClass E = some ce.cls ∧ B.locs = A.locs ++ L ∧ (∀ z ∈ L, free z.base) ∧ B.cells = A.cells + mc ∧ B.slots = A.slots + ms
def vx_Back (l : Launch) (R : Room) (p : Program) (e : Env) (below : List Frame) (s : State) (sargs : Array Value) (y : MethodName) (len W9 : Nat)
    (Pre : Pt → Array Value → Prop) (Post : Pt → Array Value → Option Value → Pt → Prop) (PostX : Pt → Array Value → Addr → Pt → Prop) : Prop :=
  ∀ (m : MethodId) (meth : Method) (c : Code) (A : Pt) (g : JFrame) (ig : Instr) (mk : MethodId) (a : Array Value),
    Stand p l e R s m sargs below meth c A.U A.locs A.cells A.slots → g.method = m → g.locals.size = c.maxLocals → decode c.code g.pc = .ok (ig, len) →
    2 * g.monitorRoom + (g.stack.map fun v => v.category).sum ≤ W9 → A.U.methodNamed? y = some mk → Pre A a →
    (∃ (v : Option Value) (B : Pt), Stand p l e R s m sargs below meth c B.U B.locs B.cells B.slots ∧ Post A a v B ∧
      Steps p.tables e below (doInvoke e (A.U.setTop g) [] mk a).1 (B.U.setTop { g with pc := g.pc + len, stack := v.toList ++ g.stack })) ∨
    (∃ (q : Addr) (B : Pt), Stand p l e R s m sargs below meth c B.U B.locs B.cells B.slots ∧ PostX A a q B ∧
      Steps p.tables e below (doInvoke e (A.U.setTop g) [] mk a).1 ((B.U.setTop g).pushFrame (.throwing q)))
section Payer
variable {l : Launch} {R : Room} {p : Program} {e : Env} {below : List Frame} {s : State} {sargs : Array Value} {y : MethodName} {len W9 : Nat}
theorem vx_back {ws : List Cond} {rm : Room} {Pc : Array Value → State → Prop} {Qc : Array Value → State → Outcome → State → Prop} {XC : String → State → State → Prop} {mc ms : Nat} {free : Addr → Prop} {bytes : ByteArray} {maxL : Nat} {ret : Option FieldType}
    (hM : vx_Met l y ws rm Pc Qc XC mc ms free) (hblind : FrameBlind Pc) (hrc : rm.cells = mc) (hrs : rm.slots = ms)
    (hframes : rm.frames + 1 ≤ R.frames) (hlocals : W9 + (maxL + 11) + rm.locals ≤ R.locals)
    (hws : ∀ w ∈ ws, ∀ a' U, s.WarmedH U.vm → w.before a' U = true) (hcode : Cond.code y bytes maxL ret ∈ ws) (hinit : ∀ a' U, s.WarmedH U.vm → (Cond.initialized y.cls).before a' U = true) :
    vx_Back l R p e below s sargs y len W9 (PreOf R mc ms Pc) (PostOf Qc mc ms free) (vx_Post XC mc ms free) := by
  intro m meth c A g ig mk a X hg hsize hdg hW hn hp
  have h1 : (headSpec ws rm).pre.before a A.U = true := atoms_intro fun w hw => hws w hw _ _ X.warmed
  have h2 : (Cond.code y bytes maxL ret).before a A.U = true := hws _ hcode _ _ X.warmed
  have h3 : (Cond.initialized y.cls).before a A.U = true := hinit _ _ X.warmed
  have h4 : A.cells + (headSpec ws rm).room.cells ≤ R.cells := by rw [show (headSpec ws rm).room.cells = mc from hrc]; exact hp.1
  have h5 : A.slots + (headSpec ws rm).room.slots ≤ R.slots := by rw [show (headSpec ws rm).room.slots = ms from hrs]; exact hp.2.1
  have hPc : Pc a (A.U.calling g mk a) := hblind _ _ _ _ hp.2.2
  obtain ⟨U, Ls, c0, s0⟩ := A
  dsimp only [Pt.U, Pt.locs, Pt.cells, Pt.slots] at h1 h2 h3 h4 h5 X hn hPc ⊢
  obtain ⟨methY, cY, hmY, hcY, -, hlY, -, -, -, -⟩ := Cond.code_spec hn h2
  obtain ⟨kY, hkY, -⟩ := className_of_methodNamed hn
  have hinitY : kY.init = .initialized := Cond.initialized_spec (findClass_of_methodNamed hn) hkY h3
  have h : At U g.method c below := by rw [hg]; exact X.here
  have hlocals9 : W9 + (maxL + 11) + (headSpec ws rm).room.locals ≤ R.locals := hlocals
  have happ : (headSpec ws rm).appliesLoose y e.platform (U.calling g mk a) = true :=
    Spec.appliesLoose_calling (g := g) h hdg hn hkY hinitY
      (X.room_calling (g := g) (R' := (headSpec ws rm).room) hsize hmY hcY hframes (by rw [hlY]; omega) h4 h5) h1
  obtain ⟨mid, hmid⟩ := h.above
  have hfr : (U.setTop g).frames = (.java g :: mid) ++ below := by rw [State.frames_setTop' g h.top, hmid]; rfl
  obtain ⟨o, s₂, hsteps, -, hend, hq⟩ := Steps.callFree hM p X.admits X.cas X.clock (acts := []) hfr happ hPc trivial
  have hq' : vx_Q Qc XC mc ms free a (U.calling g mk a) o s₂ := hq
  rw [State.frames_setTop' g h.top] at hend
  obtain ⟨g₀, hg0⟩ := Option.isSome_iff_exists.mp h.top
  obtain ⟨r, hr⟩ := State.topJava?_eq_some.mp hg0
  have hr' : (({ U with heap := s₂.heap, slotsUsed := s₂.slotsUsed } : State).setVm s₂.vm).frames = .java g₀ :: r := hr
  rcases hq' with ⟨hqc, L, hfe, hL⟩ | ⟨q, rfl, E, ce, L, hx, hce, hcv, hcl, hW₂, hsm, hL⟩
  · obtain ⟨⟨v, rfl⟩, hW₂, e2, q2, q3, q4, q5, q6⟩ := id hfe
    have e3 : s₂ = ({ (U.calling g mk a).setFrames s₂.frames with heap := s₂.heap, slotsUsed := s₂.slotsUsed } : State).setVm s₂.vm := by
      have : s₂ = ({ s₂ with vm := (U.calling g mk a).vm } : State).setVm s₂.vm := rfl
      rw [e2] at this
      exact this
    obtain ⟨c₂, i₂, len₂, hc₂, hd₂, hf₂⟩ := hend
    have hW' : U.WarmedH s₂.vm := hW₂
    have hcc : c₂ = c := by
      have h1 : s₂.code? g.method = U.code? g.method := by
        rw [State.code?_eq, State.code?_eq, hW'.alike.method?]
      exact Option.some.inj (hc₂.symm.trans (h1.trans h.code))
    subst hcc
    have hlen : len₂ = len := by rw [hdg] at hd₂; cases hd₂; rfl
    subst hlen
    have hs₂ : s₂ = (({ U with heap := s₂.heap, slotsUsed := s₂.slotsUsed } : State).setVm s₂.vm).setTop { g with pc := g.pc + len₂, stack := v.toList ++ g.stack } := by
      refine e3.trans ?_
      rw [hf₂, State.calling_eq h.top, State.setFrames_setFrames, State.setTop_of_frames _ hr', hr]
      rfl
    have hsame : U.sameButNew ({ U with heap := s₂.heap, slotsUsed := s₂.slotsUsed } : State) L mc ms := by
      refine ⟨?_, q2, q3, q4, q5, q6⟩
      obtain ⟨t, ht, -⟩ := State.frames_cons hr
      show ({ U with heap := s₂.heap, slotsUsed := s₂.slotsUsed } : State) = { U.setFrames U.frames with heap := s₂.heap, slotsUsed := s₂.slotsUsed }
      rw [State.setFrames_self ht]
    subst hg
    refine Or.inl ⟨v, ⟨(({ U with heap := s₂.heap, slotsUsed := s₂.slotsUsed } : State).setVm s₂.vm), Ls ++ L, c0 + mc, s0 + ms⟩,
      ⟨X.admits, X.cas, X.clock, X.frames, X.room, X.hears, X.method, X.code, (X.here.setHeapUsed s₂.heap s₂.slotsUsed).setVm hW'.alike, X.tail, State.WarmedH.trans X.warmed hW', X.limits, X.bytes, X.same.trans (hsame.setVm s.vm)⟩,
      ⟨g, mk, s₂, L, rfl, rfl, hqc, rfl, hL, rfl, rfl⟩, ?_⟩
    show Steps p.tables e below _ ((({ U with heap := s₂.heap, slotsUsed := s₂.slotsUsed } : State).setVm s₂.vm).setTop { g with pc := g.pc + len₂, stack := v.toList ++ g.stack })
    rw [← hs₂]
    exact hsteps
  · obtain ⟨e2, q2, q3, q4, q5, q6⟩ := id hsm
    have e3 : s₂ = ({ (U.calling g mk a).setFrames s₂.frames with heap := s₂.heap, slotsUsed := s₂.slotsUsed } : State).setVm s₂.vm := by
      have : s₂ = ({ s₂ with vm := (U.calling g mk a).vm } : State).setVm s₂.vm := rfl
      rw [e2] at this
      exact this
    have hf₂ : s₂.frames = .throwing q :: .java g :: U.frames.tail := hend
    have hW' : U.WarmedH s₂.vm := hW₂
    have hs₂ : s₂ = ((({ U with heap := s₂.heap, slotsUsed := s₂.slotsUsed } : State).setVm s₂.vm).setTop g).pushFrame (.throwing q) := by
      refine e3.trans ?_
      rw [hf₂, State.calling_eq h.top, State.setFrames_setFrames, State.pushFrame, State.frames_setTop _ hr', State.setTop_of_frames _ hr', State.setFrames_setFrames, hr]
      rfl
    have hsame : U.sameButNew ({ U with heap := s₂.heap, slotsUsed := s₂.slotsUsed } : State) L mc ms := by
      refine ⟨?_, q2, q3, q4, q5, q6⟩
      obtain ⟨t, ht, -⟩ := State.frames_cons hr
      show ({ U with heap := s₂.heap, slotsUsed := s₂.slotsUsed } : State) = { U.setFrames U.frames with heap := s₂.heap, slotsUsed := s₂.slotsUsed }
      rw [State.setFrames_self ht]
    subst hg
    refine Or.inr ⟨q, ⟨(({ U with heap := s₂.heap, slotsUsed := s₂.slotsUsed } : State).setVm s₂.vm), Ls ++ L, c0 + mc, s0 + ms⟩,
      ⟨X.admits, X.cas, X.clock, X.frames, X.room, X.hears, X.method, X.code, (X.here.setHeapUsed s₂.heap s₂.slotsUsed).setVm hW'.alike, X.tail, State.WarmedH.trans X.warmed hW', X.limits, X.bytes, X.same.trans (hsame.setVm s.vm)⟩,
      ⟨g, mk, s₂, L, E, ce, rfl, rfl, hx, hce, hcv, hcl, rfl, hL, rfl, rfl⟩, ?_⟩
    show Steps p.tables e below _ (((({ U with heap := s₂.heap, slotsUsed := s₂.slotsUsed } : State).setVm s₂.vm).setTop g).pushFrame (.throwing q))
    rw [← hs₂]
    exact hsteps
end Payer
section Calls
variable {p : Program} {l : Launch} {e : Env} {R : Room} {s : State} {m : MethodId} {args : Array Value} {below : List Frame} {meth : Method} {c : Code} {T : State} {locs : List Loc} {cells slots : Nat}
theorem vx_callV (X : Stand p l e R s m args below meth c T locs cells slots) (hexec : p.tables.exec = Jvm.exec) {own C : String} {index : Nat} {y : MethodName} {bytes : ByteArray} {maxL : Nat} {ret : Option FieldType}
    (hown : s.vm.findClass own = some m.cls) (hlink : (Cond.methodLink own index y).before args s = true) (hinst : (Cond.instanceMethod y).before args s = true) (hsel : (Cond.selects C y y).before args s = true)
    (hcode : (Cond.code y bytes maxL ret).before args s = true) (hy : y.cls ≠ "java/lang/invoke/MethodHandle" ∧ y.cls ≠ "java/lang/invoke/VarHandle")
    {W9 : Nat} {Pre : Pt → Array Value → Prop} {Post : Pt → Array Value → Option Value → Pt → Prop} {PostX : Pt → Array Value → Addr → Pt → Prop} (hK : vx_Back l R p e below s args y 3 W9 Pre Post PostX)
    {b : Addr} {cellB : Cell} (hcell : T.heap[b]? = some cellB) (hobj : cellB.vm.isStatics = false) (hcls : s.vm.findClass C = some cellB.cls)
    {g : JFrame} (hg : g.method = m) (hsize : g.locals.size = c.maxLocals) {argsL rest : List Value} (hlen : ∀ sig, parseMethodDescriptor y.desc = some sig → argsL.length = sig.parameters.length)
    (hstack : g.stack = argsL.reverse ++ .ref b :: rest) (hW : 2 * g.monitorRoom + (rest.map fun v => v.category).sum ≤ W9) (hdg : decode c.code g.pc = .ok (.invokevirtual index, 3))
    (hpre : ∀ vm₁, s.WarmedH vm₁ → Pre ⟨T.setVm vm₁, locs, cells, slots⟩ (Value.ref b :: argsL).toArray) :
    (∃ (v : Option Value) (vm₁ : Vm) (B : Pt), s.WarmedH vm₁ ∧ Stand p l e R s m args below meth c B.U B.locs B.cells B.slots ∧ Post ⟨T.setVm vm₁, locs, cells, slots⟩ (Value.ref b :: argsL).toArray v B ∧
      ∀ target, Steps p.tables e below (B.U.setTop { g with pc := g.pc + 3, stack := v.toList ++ rest }) target → Steps p.tables e below (T.setTop g) target) ∨
    (∃ (q : Addr) (vm₁ : Vm) (B : Pt), s.WarmedH vm₁ ∧ Stand p l e R s m args below meth c B.U B.locs B.cells B.slots ∧ PostX ⟨T.setVm vm₁, locs, cells, slots⟩ (Value.ref b :: argsL).toArray q B ∧
      Steps p.tables e below (T.setTop g) ((B.U.setTop { g with stack := rest }).pushFrame (.throwing q))) := by
  obtain ⟨mk, methM, hnamed, hmethM, hstM, habM⟩ := Cond.instanceMethod_spec hinst
  obtain ⟨methM', cM, hmethM', -, -, -, -, -, -, hsigM⟩ := Cond.code_spec hnamed hcode
  cases hmethM.symm.trans hmethM'
  obtain ⟨c2, r2, m2, q1, q2, q3, q4, kP, hkP, hkPi⟩ := Cond.selects_spec hsel
  cases hcls.symm.trans q1
  cases (State.methodFound?_of_named hnamed hy).symm.trans q2
  cases hnamed.symm.trans q3
  have hselP : selectMethod e.platform s.vm cellB.cls mk = .method mk := by rw [Launch.admits_selectMethod X.admits]; exact q4
  obtain ⟨vm₁, X₁, hstep₁⟩ := X.invokevirtual hexec hown hlink hnamed hmethM hstM hkP hkPi hy (a := b) (cell := cellB) hcell
    (fun z h => by rw [h] at hobj; cases hobj) hselP hmethM habM hkP hkPi (g := g) hg (argsL := argsL) (rest := rest) (hlen _ hsigM) hstack hdg
  rcases hK m meth c ⟨T.setVm vm₁, locs, cells, slots⟩ { g with stack := rest } (.invokevirtual index) mk (Value.ref b :: argsL).toArray X₁ hg hsize hdg hW (X₁.named hnamed) (hpre vm₁ X₁.warmed) with ⟨v, B, X', hpost, hsteps⟩ | ⟨q, B, X', hpost, hsteps⟩
  · exact Or.inl ⟨v, vm₁, B, X₁.warmed, X', hpost, fun target h => hstep₁ _ fun acts => by rw [doInvoke_state]; exact hsteps.trans h⟩
  · exact Or.inr ⟨q, vm₁, B, X₁.warmed, X', hpost, hstep₁ _ fun acts => by rw [doInvoke_state]; exact hsteps⟩
theorem vx_callS (X : Stand p l e R s m args below meth c T locs cells slots) (hexec : p.tables.exec = Jvm.exec) {own : String} {index : Nat} {y : MethodName} {bytes : ByteArray} {maxL : Nat} {ret : Option FieldType}
    (hown : s.vm.findClass own = some m.cls) (hlink : (Cond.methodLink own index y).before args s = true) (hstat : (Cond.static y).before args s = true) (hinit : (Cond.initialized y.cls).before args s = true)
    (hcode : (Cond.code y bytes maxL ret).before args s = true) (hy : y.cls ≠ "java/lang/invoke/MethodHandle" ∧ y.cls ≠ "java/lang/invoke/VarHandle")
    {W9 : Nat} {Pre : Pt → Array Value → Prop} {Post : Pt → Array Value → Option Value → Pt → Prop} {PostX : Pt → Array Value → Addr → Pt → Prop} (hK : vx_Back l R p e below s args y 3 W9 Pre Post PostX)
    {g : JFrame} (hg : g.method = m) (hsize : g.locals.size = c.maxLocals) {argsL rest : List Value} (hlen : ∀ sig, parseMethodDescriptor y.desc = some sig → argsL.length = sig.parameters.length)
    (hstack : g.stack = argsL.reverse ++ rest) (hW : 2 * g.monitorRoom + (rest.map fun v => v.category).sum ≤ W9) (hdg : decode c.code g.pc = .ok (.invokestatic index, 3))
    (hpre : ∀ vm₁, s.WarmedH vm₁ → Pre ⟨T.setVm vm₁, locs, cells, slots⟩ argsL.toArray) :
    (∃ (v : Option Value) (vm₁ : Vm) (B : Pt), s.WarmedH vm₁ ∧ Stand p l e R s m args below meth c B.U B.locs B.cells B.slots ∧ Post ⟨T.setVm vm₁, locs, cells, slots⟩ argsL.toArray v B ∧
      ∀ target, Steps p.tables e below (B.U.setTop { g with pc := g.pc + 3, stack := v.toList ++ rest }) target → Steps p.tables e below (T.setTop g) target) ∨
    (∃ (q : Addr) (vm₁ : Vm) (B : Pt), s.WarmedH vm₁ ∧ Stand p l e R s m args below meth c B.U B.locs B.cells B.slots ∧ PostX ⟨T.setVm vm₁, locs, cells, slots⟩ argsL.toArray q B ∧
      Steps p.tables e below (T.setTop g) ((B.U.setTop { g with stack := rest }).pushFrame (.throwing q))) := by
  obtain ⟨mk, hnamed⟩ := Cond.code_named hcode
  obtain ⟨methM, cM, hmethM, -, -, -, -, -, -, hsigM⟩ := Cond.code_spec hnamed hcode
  have hstatic : methM.isStatic = true := Cond.static_spec hnamed hmethM hstat
  obtain ⟨kP, hkP, -⟩ := className_of_methodNamed hnamed
  have hinitP : kP.init = .initialized := Cond.initialized_spec (findClass_of_methodNamed hnamed) hkP hinit
  obtain ⟨vm₁, X₁, hstep₁⟩ := X.invokestatic hexec hown hlink hnamed hmethM hstatic hkP hinitP hy (g := g) hg (argsL := argsL) (rest := rest) (hlen _ hsigM) hstack hdg
  rcases hK m meth c ⟨T.setVm vm₁, locs, cells, slots⟩ { g with stack := rest } (.invokestatic index) mk argsL.toArray X₁ hg hsize hdg hW (X₁.named hnamed) (hpre vm₁ X₁.warmed) with ⟨v, B, X', hpost, hsteps⟩ | ⟨q, B, X', hpost, hsteps⟩
  · exact Or.inl ⟨v, vm₁, B, X₁.warmed, X', hpost, fun target h => hstep₁ _ fun acts => by rw [doInvoke_state]; exact hsteps.trans h⟩
  · exact Or.inr ⟨q, vm₁, B, X₁.warmed, X', hpost, hstep₁ _ fun acts => by rw [doInvoke_state]; exact hsteps⟩
end Calls
theorem vx_cls {s : State} {T : State} {vm₁ : Vm} {E : String} {k : ClassId} (hW : s.WarmedH vm₁) (h : (T.setVm vm₁).vm.findClass E = some k) : s.vm.findClass E = some k := by
  have h1 : vm₁.findClass E = some k := h
  rw [hW.alike.findClass] at h1
  exact h1
/-- the method's frame g, with q thrown over it -/
def vx_W (p : Program) (l : Launch) (e : Env) (R : Room) (s : State) (m : MethodId) (args : Array Value) (below : List Frame) (meth : Method) (c : Code) (H : Heap) (locs : List Loc) (cells slots : Nat) (Q : State → Prop) (g : JFrame) (q : Addr) : Prop :=
  ∀ T : State, T.heap = H → Stand p l e R s m args below meth c T locs cells slots → ∃ t, Steps p.tables e below ((T.setTop g).pushFrame (.throwing q)) t ∧ Q t
def vx_Run (p : Program) (l : Launch) (e : Env) (R : Room) (s : State) (m : MethodId) (args : Array Value) (below : List Frame) (meth : Method) (c : Code) (H : Heap) (locs : List Loc) (cells slots mc ms : Nat) (g : JFrame) (rest : List Value) (Qa : State → Outcome → State → Prop) (XC : String → State → State → Prop) (free : Addr → Prop) : Prop :=
  ∀ T : State, T.heap = H → Stand p l e R s m args below meth c T locs cells slots →
    (∃ (v : Option Value) (st₀ t T' : State) (L : List Loc), st₀.heap = H ∧ Stand p l e R s m args below meth c T' (locs ++ L) (cells + mc) (slots + ms) ∧ (∀ q ∈ L, free q.base) ∧ T'.heap = t.heap ∧ T'.vm = t.vm ∧ Qa st₀ (.returned v) t ∧
      Goes p e below T g T' { g with pc := g.pc + 3, stack := v.toList ++ rest }) ∨
    (∃ (q : Addr) (st₀ t T' : State) (L : List Loc) (E : String) (ce : Cell), st₀.heap = H ∧ Stand p l e R s m args below meth c T' (locs ++ L) (cells + mc) (slots + ms) ∧ (∀ z ∈ L, free z.base) ∧ T'.heap = t.heap ∧ T'.vm = t.vm ∧ XC E st₀ t ∧ t.heap[q]? = some ce ∧ ce.vm = .none ∧ s.vm.findClass E = some ce.cls ∧
      Steps p.tables e below (T.setTop g) ((T'.setTop { g with stack := rest }).pushFrame (.throwing q)))
def vx_X {S : Type} (px : S → Prop) (B : String → S → State → Prop) (A : Nat → Prop) : String → State → State → Prop := fun E st t => ∃ u : S, px u ∧ B E u t ∧ va_F A st t
section Runs
variable {p : Program} {l : Launch} {e : Env} {R : Room} {s : State} {m : MethodId} {args : Array Value} {below : List Frame} {meth : Method} {c : Code} {H : Heap} {locs : List Loc} {cells slots : Nat}
variable {y : MethodName} {bytes cc : ByteArray} {maxL nL mc ms n index : Nat} {ret : Option FieldType} {ws : List Cond} {rm : Room} {Pc : Array Value → State → Prop} {Qc : Array Value → State → Outcome → State → Prop} {XC : String → State → State → Prop} {free : Addr → Prop} {Ts : List Cond} {own C : String} {b : Addr} {As rest : List Value} {g : JFrame}
theorem vx_callBack (cb : CallB R s args own index y bytes maxL ret ws rm mc ms n) (hM : vx_Met l y ws rm Pc Qc XC mc ms free) (hbl : FrameBlind Pc) : vx_Back l R p e below s args y 3 8 (PreOf R mc ms Pc) (PostOf Qc mc ms free) (vx_Post XC mc ms free) := by
  obtain ⟨hrc, hrs, hfr, hlo, hws, hcw, -, hini, -⟩ := cb
  exact vx_back (bytes := bytes) (maxL := maxL) (ret := ret) hM hbl hrc hrs hfr hlo hws hcw (fun a' U hW => word_at hW (Or.inl (by first | rfl | simp [Cond.onTables, Cond.keeps, Cond.steady])) hini)
theorem vx_runV (S : CallFix p m c cc nL s args Ts own) (hM : vx_Met l y ws rm Pc Qc XC mc ms free) (cw : CallW R s args own C index y bytes maxL ret ws rm mc ms n) (hp : PreV s H C b Pc As)
    (hg : g.method = m) (hn : As.length = n) (hsize : g.locals.size = nL) (hstack : g.stack = As.reverse ++ .ref b :: rest) (hW : 2 * g.monitorRoom + (rest.map fun v => v.category).sum ≤ 8) (hdg : decode cc g.pc = .ok (.invokevirtual index, 3)) (hf : cells + mc ≤ R.cells ∧ slots + ms ≤ R.slots) :
    vx_Run p l e R s m args below meth c H locs cells slots mc ms g rest (Qc (Value.ref b :: As).toArray) XC free := by
  have hK : vx_Back l R p e below s args y 3 8 (PreOf R mc ms Pc) (PostOf Qc mc ms free) (vx_Post XC mc ms free) := vx_callBack cw.1 hM hp.1
  obtain ⟨⟨-, -, -, -, -, -, hcode, -, hy, hlen, hl⟩, hin, hse⟩ := cw
  obtain ⟨hx, hb, hml, ho, -⟩ := S
  obtain ⟨-, ⟨cellB, hcB, hoB, hclB⟩, hPc⟩ := hp
  intro T hT X
  rcases vx_callV X hx (C := C) (bytes := bytes) (maxL := maxL) (ret := ret) ho hl hin hse hcode hy hK (by rw [hT]; exact hcB) hoB hclB hg (hsize.trans hml.symm) (argsL := As) (rest := rest) (fun sig h => hn.trans (hlen sig h)) hstack hW (by rw [hb]; exact hdg)
    (fun vm₁ hW₁ => ⟨hf.1, hf.2, hPc (T.setVm vm₁) hT hW₁⟩) with ⟨v, vm₁, ⟨U', l2, c2, s2⟩, hW₁, X', ⟨g', mk, t, L, e1, e2, hq, h1, hL, h2, h3⟩, st⟩ | ⟨q, vm₁, ⟨U', l2, c2, s2⟩, hW₁, X', ⟨g', mk, t, L, E, ce, e1, e2, hq, hce, hcv, hcl, h1, hL, h2, h3⟩, st⟩
  · dsimp only [Pt.U, Pt.locs, Pt.cells, Pt.slots] at X' e1 e2 h1 h2 h3 st
    subst h1; subst h2; subst h3
    exact Or.inl ⟨v, (T.setVm vm₁).calling g' mk (Value.ref b :: As).toArray, t, U', L, hT, X', hL, e1, e2, hq, st⟩
  · dsimp only [Pt.U, Pt.locs, Pt.cells, Pt.slots] at X' e1 e2 h1 h2 h3 st hcl
    subst h1; subst h2; subst h3
    exact Or.inr ⟨q, (T.setVm vm₁).calling g' mk (Value.ref b :: As).toArray, t, U', L, E, ce, hT, X', hL, e1, e2, hq, hce, hcv, vx_cls hW₁ hcl, st⟩
theorem vx_runS (S : CallFix p m c cc nL s args Ts own) (hM : vx_Met l y ws rm Pc Qc XC mc ms free) (cw : CallB R s args own index y bytes maxL ret ws rm mc ms n ∧ (Cond.static y).before args s = true) (hp : PreS s H Pc As)
    (hg : g.method = m) (hn : As.length = n) (hsize : g.locals.size = nL) (hstack : g.stack = As.reverse ++ rest) (hW : 2 * g.monitorRoom + (rest.map fun v => v.category).sum ≤ 8) (hdg : decode cc g.pc = .ok (.invokestatic index, 3)) (hf : cells + mc ≤ R.cells ∧ slots + ms ≤ R.slots) :
    vx_Run p l e R s m args below meth c H locs cells slots mc ms g rest (Qc As.toArray) XC free := by
  have hK : vx_Back l R p e below s args y 3 8 (PreOf R mc ms Pc) (PostOf Qc mc ms free) (vx_Post XC mc ms free) := vx_callBack cw.1 hM hp.1
  obtain ⟨⟨-, -, -, -, -, -, hcode, hini, hy, hlen, hl⟩, hstt⟩ := cw
  obtain ⟨hx, hb, hml, ho, -⟩ := S
  intro T hT X
  rcases vx_callS X hx (bytes := bytes) (maxL := maxL) (ret := ret) ho hl hstt hini hcode hy hK hg (hsize.trans hml.symm) (argsL := As) (rest := rest) (fun sig h => hn.trans (hlen sig h)) hstack hW (by rw [hb]; exact hdg)
    (fun vm₁ hW₁ => ⟨hf.1, hf.2, hp.2 (T.setVm vm₁) hT hW₁⟩) with ⟨v, vm₁, ⟨U', l2, c2, s2⟩, hW₁, X', ⟨g', mk, t, L, e1, e2, hq, h1, hL, h2, h3⟩, st⟩ | ⟨q, vm₁, ⟨U', l2, c2, s2⟩, hW₁, X', ⟨g', mk, t, L, E, ce, e1, e2, hq, hce, hcv, hcl, h1, hL, h2, h3⟩, st⟩
  · dsimp only [Pt.U, Pt.locs, Pt.cells, Pt.slots] at X' e1 e2 h1 h2 h3 st
    subst h1; subst h2; subst h3
    exact Or.inl ⟨v, (T.setVm vm₁).calling g' mk As.toArray, t, U', L, hT, X', hL, e1, e2, hq, st⟩
  · dsimp only [Pt.U, Pt.locs, Pt.cells, Pt.slots] at X' e1 e2 h1 h2 h3 st hcl
    subst h1; subst h2; subst h3
    exact Or.inr ⟨q, (T.setVm vm₁).calling g' mk As.toArray, t, U', L, E, ce, hT, X', hL, e1, e2, hq, hce, hcv, vx_cls hW₁ hcl, st⟩
end Runs
section Rows
variable {p : Program} {l : Launch} {e : Env} {R : Room} {s : State} {m : MethodId} {args : Array Value} {below : List Frame} {meth : Method} {c : Code} {H : Heap} {locs : List Loc} {cells slots : Nat} {Q : State → Prop}
variable {mc ms : Nat} {free : Addr → Prop} {A0 A1 : Nat → Prop} {H0 : Heap} {a : Array Value} {pc : Nat} {ls : Array Slot} {st0 rest : List Value}
theorem vx_keep {st₀ t T' : State} {L : List Loc} (h0 : st₀.heap = H) (e1 : T'.heap = t.heap) (hS : va_S A0 H0 H locs) (hA : ∀ q, q < H.size → A1 q → A0 q) (hf : ∀ q, free q → A0 q) (hL : ∀ q ∈ L, free q.base) (hF : va_F A1 st₀ t) :
    H.size ≤ T'.heap.size ∧ (∀ q : Nat, q < H.size → ¬ A1 q → T'.heap[q]? = H[q]?) ∧ va_S A0 H0 T'.heap (locs ++ L) := by
  obtain ⟨hz, hk⟩ := hF
  rw [h0] at hz hk
  exact ⟨by rw [e1]; exact hz, fun q h1 h2 => by rw [e1]; exact hk q h1 h2,
    ⟨Nat.le_trans hS.1 (by rw [e1]; exact hz), fun q h1 h2 => by rw [e1, hk q (Nat.lt_of_lt_of_le h1 hS.1) (fun z => h2 (hA q (Nat.lt_of_lt_of_le h1 hS.1) z))]; exact hS.2.1 q h1 h2, fun q hq => by
      rcases List.mem_append.mp hq with h | h
      · exact hS.2.2 q h
      · exact hf _ (hL q h)⟩⟩
theorem vx_calli {S SX : Type} {post : Int32 → S → Prop} {px : SX → Prop} {B : S → State → Prop} {BX : String → SX → State → Prop} {AX : Nat → Prop} (hr : vx_Run p l e R s m args below meth c H locs cells slots mc ms (F0 m pc ls st0) rest (va_Qi post B A1 a) (vx_X px BX AX) free) (hS : va_S A0 H0 H locs) (hA : ∀ q, q < H.size → A1 q → A0 q) (hf : ∀ q, free q → A0 q) (hAX : ∀ q, q < H.size → AX q → A0 q)
    (kx : ∀ (E : String) (ce : Cell) (q9 : Addr) (u : SX) (t : State) (H1 : Heap) (locs1 : List Loc), t.heap = H1 → s.vm.Alike t.vm → px u → BX E u t → H.size ≤ H1.size → (∀ q : Nat, q < H.size → ¬ AX q → H1[q]? = H[q]?) → va_S A0 H0 H1 locs1 → H1[q9]? = some ce → ce.vm = .none → s.vm.findClass E = some ce.cls → vx_W p l e R s m args below meth c H1 locs1 (cells + mc) (slots + ms) Q (F0 m pc ls rest) q9)
    (kk : ∀ (r : Int32) (u : S) (t : State) (H1 : Heap) (locs1 : List Loc), t.heap = H1 → s.vm.Alike t.vm → post r u → B u t → H.size ≤ H1.size → (∀ q : Nat, q < H.size → ¬ A1 q → H1[q]? = H[q]?) → va_S A0 H0 H1 locs1 → W p l e R s m args below meth c H1 locs1 (cells + mc) (slots + ms) Q (F0 m (pc + 3) ls (.int r :: rest))) : W p l e R s m args below meth c H locs cells slots Q (F0 m pc ls st0) := by
  intro T hT X
  rcases hr T hT X with ⟨v, st₀, t, T', L, h0, X', hL, e1, e2, ⟨⟨r, u, hv, hp, hb⟩, hF⟩, st⟩ | ⟨q, st₀, t, T', L, E, ce, h0, X', hL, e1, e2, ⟨u, hp, hb, hF⟩, hce, hcv, hcl, st⟩
  · cases hv
    obtain ⟨k1, k2, k3⟩ := vx_keep h0 e1 hS hA hf hL hF
    obtain ⟨t2, a1, b1⟩ := kk r u t T'.heap (locs ++ L) e1.symm (by rw [← e2]; exact X'.warmed.alike) hp hb k1 k2 k3 T' rfl X'
    exact ⟨t2, st t2 a1, b1⟩
  · obtain ⟨k1, k2, k3⟩ := vx_keep h0 e1 hS hAX hf hL hF
    obtain ⟨t2, a1, b1⟩ := kx E ce q u t T'.heap (locs ++ L) e1.symm (by rw [← e2]; exact X'.warmed.alike) hp hb k1 k2 k3 (by rw [e1]; exact hce) hcv hcl T' rfl X'
    exact ⟨t2, st.trans a1, b1⟩
theorem vx_calll {S SX : Type} {post : Int64 → S → Prop} {px : SX → Prop} {B : S → State → Prop} {BX : String → SX → State → Prop} {AX : Nat → Prop} (hr : vx_Run p l e R s m args below meth c H locs cells slots mc ms (F0 m pc ls st0) rest (va_Ql post B A1 a) (vx_X px BX AX) free) (hS : va_S A0 H0 H locs) (hA : ∀ q, q < H.size → A1 q → A0 q) (hf : ∀ q, free q → A0 q) (hAX : ∀ q, q < H.size → AX q → A0 q)
    (kx : ∀ (E : String) (ce : Cell) (q9 : Addr) (u : SX) (t : State) (H1 : Heap) (locs1 : List Loc), t.heap = H1 → s.vm.Alike t.vm → px u → BX E u t → H.size ≤ H1.size → (∀ q : Nat, q < H.size → ¬ AX q → H1[q]? = H[q]?) → va_S A0 H0 H1 locs1 → H1[q9]? = some ce → ce.vm = .none → s.vm.findClass E = some ce.cls → vx_W p l e R s m args below meth c H1 locs1 (cells + mc) (slots + ms) Q (F0 m pc ls rest) q9)
    (kk : ∀ (r : Int64) (u : S) (t : State) (H1 : Heap) (locs1 : List Loc), t.heap = H1 → s.vm.Alike t.vm → post r u → B u t → H.size ≤ H1.size → (∀ q : Nat, q < H.size → ¬ A1 q → H1[q]? = H[q]?) → va_S A0 H0 H1 locs1 → W p l e R s m args below meth c H1 locs1 (cells + mc) (slots + ms) Q (F0 m (pc + 3) ls (.long r :: rest))) : W p l e R s m args below meth c H locs cells slots Q (F0 m pc ls st0) := by
  intro T hT X
  rcases hr T hT X with ⟨v, st₀, t, T', L, h0, X', hL, e1, e2, ⟨⟨r, u, hv, hp, hb⟩, hF⟩, st⟩ | ⟨q, st₀, t, T', L, E, ce, h0, X', hL, e1, e2, ⟨u, hp, hb, hF⟩, hce, hcv, hcl, st⟩
  · cases hv
    obtain ⟨k1, k2, k3⟩ := vx_keep h0 e1 hS hA hf hL hF
    obtain ⟨t2, a1, b1⟩ := kk r u t T'.heap (locs ++ L) e1.symm (by rw [← e2]; exact X'.warmed.alike) hp hb k1 k2 k3 T' rfl X'
    exact ⟨t2, st t2 a1, b1⟩
  · obtain ⟨k1, k2, k3⟩ := vx_keep h0 e1 hS hAX hf hL hF
    obtain ⟨t2, a1, b1⟩ := kx E ce q u t T'.heap (locs ++ L) e1.symm (by rw [← e2]; exact X'.warmed.alike) hp hb k1 k2 k3 (by rw [e1]; exact hce) hcv hcl T' rfl X'
    exact ⟨t2, st.trans a1, b1⟩
theorem vx_callf {S SX : Type} {post : UInt32 → S → Prop} {px : SX → Prop} {B : S → State → Prop} {BX : String → SX → State → Prop} {AX : Nat → Prop} (hr : vx_Run p l e R s m args below meth c H locs cells slots mc ms (F0 m pc ls st0) rest (va_Qf post B A1 a) (vx_X px BX AX) free) (hS : va_S A0 H0 H locs) (hA : ∀ q, q < H.size → A1 q → A0 q) (hf : ∀ q, free q → A0 q) (hAX : ∀ q, q < H.size → AX q → A0 q)
    (kx : ∀ (E : String) (ce : Cell) (q9 : Addr) (u : SX) (t : State) (H1 : Heap) (locs1 : List Loc), t.heap = H1 → s.vm.Alike t.vm → px u → BX E u t → H.size ≤ H1.size → (∀ q : Nat, q < H.size → ¬ AX q → H1[q]? = H[q]?) → va_S A0 H0 H1 locs1 → H1[q9]? = some ce → ce.vm = .none → s.vm.findClass E = some ce.cls → vx_W p l e R s m args below meth c H1 locs1 (cells + mc) (slots + ms) Q (F0 m pc ls rest) q9)
    (kk : ∀ (r : UInt32) (u : S) (t : State) (H1 : Heap) (locs1 : List Loc), t.heap = H1 → s.vm.Alike t.vm → post r u → B u t → H.size ≤ H1.size → (∀ q : Nat, q < H.size → ¬ A1 q → H1[q]? = H[q]?) → va_S A0 H0 H1 locs1 → W p l e R s m args below meth c H1 locs1 (cells + mc) (slots + ms) Q (F0 m (pc + 3) ls (.float r :: rest))) : W p l e R s m args below meth c H locs cells slots Q (F0 m pc ls st0) := by
  intro T hT X
  rcases hr T hT X with ⟨v, st₀, t, T', L, h0, X', hL, e1, e2, ⟨⟨r, u, hv, hp, hb⟩, hF⟩, st⟩ | ⟨q, st₀, t, T', L, E, ce, h0, X', hL, e1, e2, ⟨u, hp, hb, hF⟩, hce, hcv, hcl, st⟩
  · cases hv
    obtain ⟨k1, k2, k3⟩ := vx_keep h0 e1 hS hA hf hL hF
    obtain ⟨t2, a1, b1⟩ := kk r u t T'.heap (locs ++ L) e1.symm (by rw [← e2]; exact X'.warmed.alike) hp hb k1 k2 k3 T' rfl X'
    exact ⟨t2, st t2 a1, b1⟩
  · obtain ⟨k1, k2, k3⟩ := vx_keep h0 e1 hS hAX hf hL hF
    obtain ⟨t2, a1, b1⟩ := kx E ce q u t T'.heap (locs ++ L) e1.symm (by rw [← e2]; exact X'.warmed.alike) hp hb k1 k2 k3 (by rw [e1]; exact hce) hcv hcl T' rfl X'
    exact ⟨t2, st.trans a1, b1⟩
theorem vx_calld {S SX : Type} {post : UInt64 → S → Prop} {px : SX → Prop} {B : S → State → Prop} {BX : String → SX → State → Prop} {AX : Nat → Prop} (hr : vx_Run p l e R s m args below meth c H locs cells slots mc ms (F0 m pc ls st0) rest (va_Qd post B A1 a) (vx_X px BX AX) free) (hS : va_S A0 H0 H locs) (hA : ∀ q, q < H.size → A1 q → A0 q) (hf : ∀ q, free q → A0 q) (hAX : ∀ q, q < H.size → AX q → A0 q)
    (kx : ∀ (E : String) (ce : Cell) (q9 : Addr) (u : SX) (t : State) (H1 : Heap) (locs1 : List Loc), t.heap = H1 → s.vm.Alike t.vm → px u → BX E u t → H.size ≤ H1.size → (∀ q : Nat, q < H.size → ¬ AX q → H1[q]? = H[q]?) → va_S A0 H0 H1 locs1 → H1[q9]? = some ce → ce.vm = .none → s.vm.findClass E = some ce.cls → vx_W p l e R s m args below meth c H1 locs1 (cells + mc) (slots + ms) Q (F0 m pc ls rest) q9)
    (kk : ∀ (r : UInt64) (u : S) (t : State) (H1 : Heap) (locs1 : List Loc), t.heap = H1 → s.vm.Alike t.vm → post r u → B u t → H.size ≤ H1.size → (∀ q : Nat, q < H.size → ¬ A1 q → H1[q]? = H[q]?) → va_S A0 H0 H1 locs1 → W p l e R s m args below meth c H1 locs1 (cells + mc) (slots + ms) Q (F0 m (pc + 3) ls (.double r :: rest))) : W p l e R s m args below meth c H locs cells slots Q (F0 m pc ls st0) := by
  intro T hT X
  rcases hr T hT X with ⟨v, st₀, t, T', L, h0, X', hL, e1, e2, ⟨⟨r, u, hv, hp, hb⟩, hF⟩, st⟩ | ⟨q, st₀, t, T', L, E, ce, h0, X', hL, e1, e2, ⟨u, hp, hb, hF⟩, hce, hcv, hcl, st⟩
  · cases hv
    obtain ⟨k1, k2, k3⟩ := vx_keep h0 e1 hS hA hf hL hF
    obtain ⟨t2, a1, b1⟩ := kk r u t T'.heap (locs ++ L) e1.symm (by rw [← e2]; exact X'.warmed.alike) hp hb k1 k2 k3 T' rfl X'
    exact ⟨t2, st t2 a1, b1⟩
  · obtain ⟨k1, k2, k3⟩ := vx_keep h0 e1 hS hAX hf hL hF
    obtain ⟨t2, a1, b1⟩ := kx E ce q u t T'.heap (locs ++ L) e1.symm (by rw [← e2]; exact X'.warmed.alike) hp hb k1 k2 k3 (by rw [e1]; exact hce) hcv hcl T' rfl X'
    exact ⟨t2, st.trans a1, b1⟩
theorem vx_callv {S SX : Type} {post : S → Prop} {px : SX → Prop} {B : S → State → Prop} {BX : String → SX → State → Prop} {AX : Nat → Prop} (hr : vx_Run p l e R s m args below meth c H locs cells slots mc ms (F0 m pc ls st0) rest (va_Qv post B A1 a) (vx_X px BX AX) free) (hS : va_S A0 H0 H locs) (hA : ∀ q, q < H.size → A1 q → A0 q) (hf : ∀ q, free q → A0 q) (hAX : ∀ q, q < H.size → AX q → A0 q)
    (kx : ∀ (E : String) (ce : Cell) (q9 : Addr) (u : SX) (t : State) (H1 : Heap) (locs1 : List Loc), t.heap = H1 → s.vm.Alike t.vm → px u → BX E u t → H.size ≤ H1.size → (∀ q : Nat, q < H.size → ¬ AX q → H1[q]? = H[q]?) → va_S A0 H0 H1 locs1 → H1[q9]? = some ce → ce.vm = .none → s.vm.findClass E = some ce.cls → vx_W p l e R s m args below meth c H1 locs1 (cells + mc) (slots + ms) Q (F0 m pc ls rest) q9)
    (kk : ∀ (u : S) (t : State) (H1 : Heap) (locs1 : List Loc), t.heap = H1 → s.vm.Alike t.vm → post u → B u t → H.size ≤ H1.size → (∀ q : Nat, q < H.size → ¬ A1 q → H1[q]? = H[q]?) → va_S A0 H0 H1 locs1 → W p l e R s m args below meth c H1 locs1 (cells + mc) (slots + ms) Q (F0 m (pc + 3) ls (rest))) : W p l e R s m args below meth c H locs cells slots Q (F0 m pc ls st0) := by
  intro T hT X
  rcases hr T hT X with ⟨v, st₀, t, T', L, h0, X', hL, e1, e2, ⟨⟨u, hv, hp, hb⟩, hF⟩, st⟩ | ⟨q, st₀, t, T', L, E, ce, h0, X', hL, e1, e2, ⟨u, hp, hb, hF⟩, hce, hcv, hcl, st⟩
  · cases hv
    obtain ⟨k1, k2, k3⟩ := vx_keep h0 e1 hS hA hf hL hF
    obtain ⟨t2, a1, b1⟩ := kk u t T'.heap (locs ++ L) e1.symm (by rw [← e2]; exact X'.warmed.alike) hp hb k1 k2 k3 T' rfl X'
    exact ⟨t2, st t2 a1, b1⟩
  · obtain ⟨k1, k2, k3⟩ := vx_keep h0 e1 hS hAX hf hL hF
    obtain ⟨t2, a1, b1⟩ := kx E ce q u t T'.heap (locs ++ L) e1.symm (by rw [← e2]; exact X'.warmed.alike) hp hb k1 k2 k3 (by rw [e1]; exact hce) hcv hcl T' rfl X'
    exact ⟨t2, st.trans a1, b1⟩
/-- caught by the row x of this method's table; the rows ahead don't take it -/
theorem vx_catch {own name : String} {E : String} {ce : Cell} {q : Addr} (hown : s.vm.findClass own = some m.cls) (pre : List ExceptionTableEntry) (x : ExceptionTableEntry) (suf : List ExceptionTableEntry) (hsplit : c.exceptionTable.toList = pre ++ x :: suf)
    (hpass : ∀ z ∈ pre, covers z pc = false ∨ (z.catchType ≠ 0 ∧ ∃ nm : String, (Cond.classLink own z.catchType nm).before args s = true ∧ va_Nc E nm s)) (hx : covers x pc = true) (h0 : x.catchType ≠ 0)
    (hlink : (Cond.classLink own x.catchType name).before args s = true) (hcast : (Cond.castable E name).before args s = true) (hcell : H[q]? = some ce) (hv : ce.vm = .none) (hcl : s.vm.findClass E = some ce.cls)
    (kk : W p l e R s m args below meth c H locs cells slots Q (F0 m x.handlerPc ls [.ref q])) : vx_W p l e R s m args below meth c H locs cells slots Q (F0 m pc ls rest) q := by
  intro T hT X
  have hpl : e.platform.magicAccessors = ({} : Platform).magicAccessors := by rw [X.admits.platform]
  obtain ⟨c3, c4, hc3, hc4, hasg⟩ := Cond.castable_spec hcast
  cases Option.some.inj (hc3.symm.trans hcl)
  obtain ⟨c5, hc5, hcl5⟩ := Cond.classLink_spec hown hlink e.platform hpl
  cases Option.some.inj (hc4.symm.trans hc5)
  obtain ⟨vm', X', st⟩ := X.thenCaughtThrough q (g := F0 m pc ls rest) rfl (Steps.refl _) (by rw [hT]; exact hcell) (by rw [hv]; rfl) (by obtain ⟨k9, h9, -⟩ := Vm.findClass_spec hcl; exact ⟨k9, h9⟩) pre x suf hsplit
    (fun z hz => by
      rcases hpass z hz with h | ⟨hz0, nm, hl1, hn1⟩
      · exact Or.inl h
      · obtain ⟨c6, hc6, hcl6⟩ := Cond.classLink_spec hown hl1 e.platform hpl
        obtain ⟨a8, b8, h1, h2, h3⟩ := hn1
        cases Option.some.inj (h1.symm.trans hcl)
        cases Option.some.inj (h2.symm.trans hc6)
        exact Or.inr ⟨hz0, _, hcl6, h3⟩) hx (Or.inr ⟨h0, c4, hcl5, hasg⟩)
  obtain ⟨t, a1, b1⟩ := kk (T.setVm vm') hT X'
  exact ⟨t, st.trans a1, b1⟩
end Rows
section Ends
variable {p : Program} {l : Launch} {e : Env} {R : Room} {s : State} {m : MethodId} {args : Array Value} {below : List Frame} {meth : Method} {c : Code} {H : Heap} {locs : List Loc} {cells slots : Nat} {Q : State → Prop}
variable {mc ms : Nat} {free : Addr → Prop} {A0 A1 : Nat → Prop} {H0 : Heap} {a : Array Value} {ls : Array Slot} {st0 rest : List Value}
variable {Qc : Array Value → State → Outcome → State → Prop} {XC : String → State → State → Prop}
/-- what a body that may throw owes at its end -/
def vx_MQ (below : List Frame) (Qc : Array Value → State → Outcome → State → Prop) (XC : String → State → State → Prop) (a : Array Value) (s : State) (mc ms : Nat) (free : Addr → Prop) : State → Prop := fun t =>
  ∃ o, t.status = .running ∧ Ended t below o ∧ vx_Q Qc XC mc ms free a s o t
theorem vx_ret {g : JFrame} {mc ms : Nat} (k : W p l e R s m args below meth c H locs cells slots (MQ below Qc args s mc ms free) g) : W p l e R s m args below meth c H locs cells slots (vx_MQ below Qc XC args s mc ms free) g := by
  intro T hT X
  obtain ⟨t, a1, o, b1, b2, b3, b4⟩ := k T hT X
  exact ⟨t, a1, o, b1, b2, Or.inl ⟨b3, b4⟩⟩
/-- not caught here: it goes on to the caller -/
theorem vx_widen {g : JFrame} {q : Addr} {k n : Nat} (h1 : cells ≤ k) (h2 : slots ≤ n) (kk : vx_W p l e R s m args below meth c H locs k n Q g q) : vx_W p l e R s m args below meth c H locs cells slots Q g q := fun T hT X => kk T hT (stand_widen X h1 h2)
theorem vx_out {pc : Nat} {E : String} {ce : Cell} {q : Addr} {mc ms : Nat} (hout : ∀ x ∈ c.exceptionTable.toList, covers x pc = false) (hlocks : meth.locks = false) (hcell : H[q]? = some ce) (hv : ce.vm = .none) (hcl : s.vm.findClass E = some ce.cls)
    (hx : ∀ t : State, t.heap = H → s.vm.Alike t.vm → XC E s t) (hf : ∀ z ∈ locs, free z.base) (hc : cells ≤ mc) (hs : slots ≤ ms) :
    vx_W p l e R s m args below meth c H locs cells slots (vx_MQ below Qc XC args s mc ms free) (F0 m pc ls rest) q := by
  intro T hT X
  obtain ⟨st1, hrun, hend, hW, hsm⟩ := X.leaveThrown q (g := F0 m pc ls rest) rfl rfl rfl hout hlocks
  have hcell9 : (T.setFrames (.throwing q :: below)).heap[q]? = some ce := by
    show T.heap[q]? = some ce
    rw [hT]; exact hcell
  exact ⟨_, st1, .threw q, hrun, hend, Or.inr ⟨q, rfl, E, ce, locs, hx _ hT hW.alike, hcell9, hv, hcl, hW, hsm.mono hc hs, hf⟩⟩
theorem vx_frame {U : State} {k n : Nat} (h : s.sameButNew ({ U with vm := s.vm } : State) locs k n) : s.heap.size ≤ U.heap.size ∧ ∀ q : Nat, q < s.heap.size → (∀ z ∈ locs, z.base ≠ q) → U.heap[q]? = s.heap[q]? := by
  obtain ⟨-, h2, -, -, -, h6⟩ := h
  refine ⟨h2, fun q hq hz => ?_⟩
  obtain ⟨c9, e1, e2, e3, e4⟩ := h6 q _ (Array.getElem?_eq_getElem hq)
  have hs : c9.slots = (s.heap[q]).slots := Array.ext_getElem? fun i => e4 i fun hm => hz _ hm rfl
  have h9 : c9 = s.heap[q] := by
    rw [hs] at e2
    exact e2
  have e5 : U.heap[q]? = some c9 := e1
  rw [e5, h9, Array.getElem?_eq_getElem hq]
/-- the words of a throw but the four that speak of the heap -/
def vx_no (w : Cond) : Bool := decide (w ≠ .isRef (.static Bundle.tN "UNASSIGNED_STACK" Bundle.steD)) && decide (w ≠ .isRef (.static Bundle.tN "SUPPRESSED_SENTINEL" Bundle.listD)) && decide (w ≠ .laysStatic Bundle.tN "UNASSIGNED_STACK" Bundle.steD) && decide (w ≠ .laysStatic Bundle.tN "SUPPRESSED_SENTINEL" Bundle.listD)
def vx_at0 (own : String) (ic : Nat) (X : String) (names : List String) : List Cond := (Bundle.ownAtoms0 own ic X names).filter vx_no
def vx_atS (own : String) (ic : Nat) (X : String) (names : List String) : List Cond := (Bundle.ownAtoms own ic X names).filter vx_no
/-- a word that the tables alone decide, or a good one -/
def vx_ot (w : Cond) : Bool := w.onTables || goodWord w
theorem vx_ot_at {args a' : Array Value} {s U : State} {w : Cond} (hW : s.WarmedH U.vm) (hvm : s.vm = U.vm) (hg : vx_ot w = true) (h : w.before args s = true) : w.before a' U = true := by
  simp only [vx_ot, Bool.or_eq_true] at hg
  rcases hg with hg | hg
  · exact va_tabs hg hvm h
  · exact word_at hW (good_of_word hg) h
/-- a list's words: the good ones out of the method's own list, the others by premises of their own -/
theorem vx_hat {args : Array Value} {s : State} {L B : List Cond} (h1 : ∀ w ∈ L.filter goodWord, w.before args s = true) (h2 : ∀ w ∈ L.filter (fun w => !goodWord w), w ∈ B) (h3 : ∀ w ∈ B, w.before args s = true) : ∀ w ∈ L, w.before args s = true := by
  intro w hw
  by_cases g : goodWord w = true
  · exact h1 w (List.mem_filter.mpr ⟨hw, g⟩)
  · refine h3 w (h2 w (List.mem_filter.mpr ⟨hw, ?_⟩))
    show (!goodWord w) = true
    cases hgw : goodWord w
    · rfl
    · exact absurd hgw g
theorem vx_c {args : Array Value} {s : State} {w : Cond} {B : List Cond} (h : w.before args s = true) (t : ∀ w ∈ B, w.before args s = true) : ∀ w' ∈ w :: B, w'.before args s = true := fun w' h' => (List.mem_cons.mp h').elim (fun e => by rw [e]; exact h) (t w')
theorem vx_n {args : Array Value} {s : State} : ∀ w ∈ ([] : List Cond), w.before args s = true := fun _ h => nomatch h
theorem vx_own {args : Array Value} {s : State} {L : List Cond} (h1 : ∀ w ∈ L.filter vx_no, w.before args s = true)
    (hU : (Cond.isRef (.static Bundle.tN "UNASSIGNED_STACK" Bundle.steD)).before args s = true) (hN : (Cond.isRef (.static Bundle.tN "SUPPRESSED_SENTINEL" Bundle.listD)).before args s = true)
    (lU : (Cond.laysStatic Bundle.tN "UNASSIGNED_STACK" Bundle.steD).before args s = true) (lN : (Cond.laysStatic Bundle.tN "SUPPRESSED_SENTINEL" Bundle.listD).before args s = true) : ∀ w ∈ L, w.before args s = true := by
  intro w hw
  by_cases e1 : w = .isRef (.static Bundle.tN "UNASSIGNED_STACK" Bundle.steD)
  · rw [e1]; exact hU
  · by_cases e2 : w = .isRef (.static Bundle.tN "SUPPRESSED_SENTINEL" Bundle.listD)
    · rw [e2]; exact hN
    · by_cases e3 : w = .laysStatic Bundle.tN "UNASSIGNED_STACK" Bundle.steD
      · rw [e3]; exact lU
      · by_cases e4 : w = .laysStatic Bundle.tN "SUPPRESSED_SENTINEL" Bundle.listD
        · rw [e4]; exact lN
        · exact h1 w (List.mem_filter.mpr ⟨hw, by unfold vx_no; rw [decide_eq_true e1, decide_eq_true e2, decide_eq_true e3, decide_eq_true e4]; rfl⟩)
/-- where a static field lies, its class's statics cell in H -/
def vx_L (C n d : String) (A : Nat → Prop) (U : State) (H : Heap) : Prop := ∃ (c : ClassId) (k : Class) (i : Nat) (f : Field) (a : Nat) (cell : Cell), U.vm.findClass C = some c ∧ U.fieldFound? C n d = some (c, k, i, f) ∧ f.isStatic = true ∧ k.statics = some a ∧ H[a]? = some cell ∧ cell.vm.isStatics = true ∧ cell.cls = c ∧ f.slot < cell.slots.size ∧ k.staticTypes[f.slot]? = some f.type ∧ ¬ A a
theorem vx_L.moved {C n d : String} {A : Nat → Prop} {u U : State} {H : Heap} (hvm : u.vm.Alike U.vm) (h : vx_L C n d A u H) : vx_L C n d A U H := by
  obtain ⟨c, k, i, f, a, cell, h1, h2, h3, h4, h5, h6, h7, h8, h9, h10⟩ := h
  obtain ⟨k', hi', he⟩ := State.fieldFound?_setVm hvm h2
  exact ⟨c, k', i, f, a, cell, by rw [hvm.findClass]; exact h1, hi', h3, by rw [he]; exact h4, h5, h6, h7, h8, by rw [he]; exact h9, h10⟩
theorem vx_L.kept {C n d : String} {A : Nat → Prop} {U : State} {H H1 : Heap} (h : vx_L C n d A U H) (hq : ∀ a : Nat, a < H.size → ¬ A a → H1[a]? = H[a]?) : vx_L C n d A U H1 := by
  obtain ⟨c, k, i, f, a, cell, h1, h2, h3, h4, h5, h6, h7, h8, h9, h10⟩ := h
  exact ⟨c, k, i, f, a, cell, h1, h2, h3, h4, by rw [hq a (Array.getElem?_eq_some_iff.mp h5).1 h10]; exact h5, h6, h7, h8, h9, h10⟩
theorem vx_L.narrow {C n d : String} {A B : Nat → Prop} {U : State} {H : Heap} (h : vx_L C n d A U H) (hAB : ∀ q, B q → A q) : vx_L C n d B U H := by
  obtain ⟨c, k, i, f, a, cell, h1, h2, h3, h4, h5, h6, h7, h8, h9, h10⟩ := h
  exact ⟨c, k, i, f, a, cell, h1, h2, h3, h4, h5, h6, h7, h8, h9, fun z => h10 (hAB _ z)⟩
theorem vx_L.word {C n d : String} {A : Nat → Prop} {s : State} {args : Array Value} (h : vx_L C n d A s s.heap) : (Cond.laysStatic C n d).before args s = true := by
  obtain ⟨c, k, i, f, a, cell, h1, h2, h3, h4, h5, h6, h7, h8, h9, -⟩ := h
  show (Cond.laysStatic C n d).holds args s none s [] = true
  exact Cond.laysStatic_of h1 h2 h3 h4 h5 h6 h7 h8 h9
/-- .. and what it holds: null or some reference -/
def vx_Zq (C n d : String) (A : Nat → Prop) (U : State) (H : Heap) : Prop := va_Zq C n d A U H ∧ vx_L C n d A U H
theorem vx_Zq.moved {C n d : String} {A : Nat → Prop} {u U : State} {H : Heap} (hvm : u.vm.Alike U.vm) (h : vx_Zq C n d A u H) : vx_Zq C n d A U H := ⟨va_Zq.moved hvm h.1, vx_L.moved hvm h.2⟩
theorem vx_Zq.kept {C n d : String} {A : Nat → Prop} {U : State} {H H1 : Heap} (h : vx_Zq C n d A U H) (hq : ∀ a : Nat, a < H.size → ¬ A a → H1[a]? = H[a]?) : vx_Zq C n d A U H1 := ⟨va_Zq.kept h.1 hq, vx_L.kept h.2 hq⟩
theorem vx_Zq.narrow {C n d : String} {A B : Nat → Prop} {U : State} {H : Heap} (h : vx_Zq C n d A U H) (hAB : ∀ q, B q → A q) : vx_Zq C n d B U H := ⟨va_Zq.narrow h.1 hAB, vx_L.narrow h.2 hAB⟩
theorem vx_Zqof {args : Array Value} {s : State} {C n d : String} {A : Nat → Prop} (hl : (Cond.laysStatic C n d).before args s = true) (hini : (Cond.initialized C).before args s = true) (h : (Cond.isRef (.static C n d)).before args s = true) (hA : ∀ a : Nat, a < s.heap.size → ¬ A a) : vx_Zq C n d A s s.heap := by
  refine ⟨va_Zqof hl hini h hA, ?_⟩
  obtain ⟨c, k, i, f, a, cell, h1, h2, h3, h4, h5, h6, h7, h8, h9⟩ := Cond.laysStatic_spec hl
  exact ⟨c, k, i, f, a, cell, h1, h2, h3, h4, h5, h6, h7, h8, h9, hA a (Array.getElem?_eq_some_iff.mp h5).1⟩
theorem vx_isRef {C n d : String} {v : Value} {A : Nat → Prop} {s : State} {args : Array Value} (h : va_Z C n d v A s s.heap) (hv : v.isRef = true) : (Cond.isRef (.static C n d)).before args s = true := by
  obtain ⟨cf, kf, fi, f, a, cell, h1, h2, h3, h4, h5, h6, h7, -⟩ := h
  have he : (Term.static C n d).eval args s none [] s = some v := by
    simp [Term.eval, State.fieldNamed?, h1, h2, h4, h5, h6, h7]
  simp only [Cond.before, Cond.holds, Cond.value, he]
  cases v <;> simp_all [Value.isRef]
theorem vx_isRefq {C n d : String} {A : Nat → Prop} {s : State} {args : Array Value} (h : va_Zq C n d A s s.heap) : (Cond.isRef (.static C n d)).before args s = true := by
  rcases h with h | ⟨t, h⟩
  · exact vx_isRef h rfl
  · exact vx_isRef h rfl
/-- the same frame, seen from here: as if the method were called anew in this heap -/
theorem vx_rebase {T : State} (X : Stand p l e R s m args below meth c T locs cells slots) {R' : Room} (hf : R'.frames ≤ R.frames) (hl : R'.locals ≤ R.locals) (hc : cells + R'.cells ≤ R.cells) (hs : slots + R'.slots ≤ R.slots) :
    Stand p l e R' ((T.setVm s.vm).setFrames (.invoking m args :: below)) m args below meth c T [] 0 0 := by
  have htop : (T.setVm s.vm).topJava?.isSome := X.here.top
  have hF : ((T.setVm s.vm).setFrames (.invoking m args :: below)).frames = .invoking m args :: below := State.frames_setFrames _ (State.cur_lt_of_top htop)
  obtain ⟨g₀, hg0⟩ := Option.isSome_iff_exists.mp htop
  obtain ⟨r, hr⟩ := State.topJava?_eq_some.mp hg0
  have hl9 : e.platform.stackLimits (T.setVm s.vm).me = e.platform.stackLimits s.me := X.limits
  have hb9 : (T.setVm s.vm).me.stackBytes = s.me.stackBytes := X.bytes
  refine ⟨X.admits, X.cas, X.clock, hF, ?_, X.hears, X.method, X.code, X.here, X.tail, X.warmed, ?_, ?_, ?_⟩
  · have h := X.room
    have hU : ((T.setVm s.vm).setFrames (.invoking m args :: below)).localsInUse = s.localsInUse := by
      rw [State.localsInUse_invoking hF (meth := meth) (c := c) X.method X.code, State.localsInUse_invoking X.frames X.method X.code]
    simp only [State.hasRoom, Bool.and_eq_true, decide_eq_true_eq] at h ⊢
    obtain ⟨⟨⟨⟨h1, h2, h3, h4, h5, h6⟩, h7⟩, h8⟩, h9⟩ := h
    rw [X.frames, List.length_cons] at h2 h3
    have q1 := X.heapSize
    have q2 := X.used
    simp only [hF, hU, List.length_cons, State.stackLimits_setFrames, State.stackBytes_setFrames, hl9, hb9]
    refine ⟨⟨⟨⟨by omega, by omega, by omega, by omega, by omega, h6⟩, ?_⟩, ?_⟩, X.book⟩
    · show T.heap.size + R'.cells ≤ e.platform.maxCells
      omega
    · show T.slotsUsed + R'.slots ≤ e.platform.maxSlots
      omega
  · rw [State.stackLimits_setFrames]; rfl
  · rw [State.stackBytes_setFrames]; rfl
  · refine ⟨?_, Nat.le_refl _, Nat.le_refl _, ?_, ?_, fun a c9 h9 => ⟨c9, h9, rfl, rfl, fun _ _ => rfl⟩⟩
    · obtain ⟨t, ht, -⟩ := State.frames_cons hr
      show T.setVm s.vm = { ((T.setVm s.vm).setFrames (.invoking m args :: below)).setFrames (T.setVm s.vm).frames with heap := T.heap, slotsUsed := T.slotsUsed }
      rw [State.setFrames_setFrames, State.setFrames_self ht]
      rfl
    · show T.slotsUsed = T.slotsUsed + ((T.heap.toList.drop T.heap.size).map (·.slots.size)).sum
      rw [List.drop_eq_nil_of_le (Nat.le_of_eq Array.length_toList)]
      rfl
    · show ((T.heap.toList.drop T.heap.size).map (·.slots.size)).sum ≤ 0
      rw [List.drop_eq_nil_of_le (Nat.le_of_eq Array.length_toList)]
      exact Nat.le_refl _
/-- 'throw new E()': new; dup; invokespecial; athrow -/
theorem vx_throw0 {cc : ByteArray} {pc : Nat} (hexec : p.tables.exec = Jvm.exec) (hb : c.code = cc) (hl : l.stackTraces = false) {own cls : String} {names : List String} {ik ic mc ms : Nat} {A : Nat → Prop}
    (hown : s.vm.findClass own = some m.cls) (hcls : Bundle.fit cls = true) (hnames : ∀ n ∈ names, Bundle.fit n = true)
    (hk : (Cond.classLink own ik cls).before args s = true) (hini : (Cond.initialized cls).before args s = true) (hat : ∀ w ∈ vx_at0 own ic cls names, w.before args s = true)
    (hgood : ∀ w ∈ Cond.classLink own ik cls :: Cond.initialized cls :: vx_at0 own ic cls names, vx_ot w = true)
    (hU : vx_Zq Bundle.tN "UNASSIGNED_STACK" Bundle.steD A s s.heap) (hN : vx_Zq Bundle.tN "SUPPRESSED_SENTINEL" Bundle.listD A s s.heap) (hS : va_S A s.heap H locs) (hsize : ls.size = c.maxLocals)
    (d0 : decode cc pc = .ok (.new ik, 3)) (d3 : decode cc (pc + 3) = .ok (.dup, 1)) (d4 : decode cc (pc + 4) = .ok (.invokespecial ic, 3)) (d7 : decode cc (pc + 7) = .ok (.athrow, 1))
    (hout : ∀ x ∈ c.exceptionTable.toList, covers x (pc + 7) = false)
    (hRframes : names.length + 3 < R.frames) (hRlocals : (rest.map fun v => v.category).sum + (13 * (names.length + 1) + 42) ≤ R.locals) (hRcells : cells + 1 ≤ R.cells) (hRslots : slots + 6 ≤ R.slots) (hlocks : meth.locks = false)
    (hx : ∀ t : State, s.vm.Alike t.vm → H.size ≤ t.heap.size → (∀ q : Nat, q < H.size → t.heap[q]? = H[q]?) → XC cls s t)
    (hf : ∀ z ∈ locs, free z.base) (hc : cells + 1 ≤ mc) (hs : slots + 6 ≤ ms) :
    W p l e R s m args below meth c H locs cells slots (vx_MQ below Qc XC args s mc ms free) (F0 m pc ls rest) := by
  intro T hT X
  have htr : e.platform.stackTraces = false := (show e.platform.stackTraces = l.stackTraces by rw [X.admits.platform]).trans hl
  have Y := vx_rebase X (R' := { frames := R.frames, locals := R.locals, cells := 1, slots := 6 }) (Nat.le_refl _) (Nat.le_refl _) hRcells hRslots
  obtain ⟨s', hA⟩ : ∃ z, z = (T.setVm s.vm).setFrames (.invoking m args :: below) := ⟨_, rfl⟩
  rw [← hA] at Y
  have hvm : s'.vm = s.vm := by rw [hA]; rfl
  have hhp : s'.heap = H := by rw [hA]; exact hT
  have hW0 : s.WarmedH s'.vm := by rw [hvm]; exact State.WarmedH.refl s
  have hat' : ∀ w ∈ vx_at0 own ic cls names, w.before args s' = true := fun w hw => vx_ot_at hW0 hvm.symm (hgood w (List.mem_cons_of_mem _ (List.mem_cons_of_mem _ hw))) (hat w hw)
  have hk' : (Cond.classLink own ik cls).before args s' = true := vx_ot_at hW0 hvm.symm (hgood _ List.mem_cons_self) hk
  have hini' : (Cond.initialized cls).before args s' = true := vx_ot_at hW0 hvm.symm (hgood _ (List.mem_cons_of_mem _ List.mem_cons_self)) hini
  have hU' : vx_Zq Bundle.tN "UNASSIGNED_STACK" Bundle.steD A s' s'.heap := by rw [hhp]; exact vx_Zq.moved hW0.alike (hU.kept hS.2.1)
  have hN' : vx_Zq Bundle.tN "SUPPRESSED_SENTINEL" Bundle.listD A s' s'.heap := by rw [hhp]; exact vx_Zq.moved hW0.alike (hN.kept hS.2.1)
  have h : ∀ w ∈ Bundle.ownAtoms0 own ic cls names, w.before args s' = true := vx_own hat' (vx_isRefq hU'.1) (vx_isRefq hN'.1) hU'.2.word hN'.2.word
  have hown' : s'.vm.findClass own = some m.cls := by rw [hvm]; exact hown
  have hins : (Cond.instantiable cls 6).before args s' = true := h _ (by simp [Bundle.ownAtoms0])
  obtain ⟨vm₁, cX, kX, hfX, hkX, -, -, X₁, st1⟩ := Y.newCold hexec (own := own) (C := cls) (index := ik) (n := 6) hown' hk' hins hini'
    (g := F0 m pc ls rest) rfl (by rw [hb]; exact d0) (Nat.le_refl _) (Nat.le_refl _)
  generalize hT1 : (T.setVm vm₁).pushCell { cls := cX, slots := kX.instanceTypes.map defaultValue, vm := .none } = T1 at X₁ st1
  have hcat : (Value.ref T.heap.size).category = 1 := rfl
  have hcellA : T1.heap[T.heap.size]? = some (freshCell cX kX) := by rw [← hT1]; exact State.heap_pushCell_size _ _
  have d3' : decode c.code (pc + 3) = .ok (.dup, 1) := by rw [hb]; exact d3
  obtain ⟨U, hsteps, hrun, hend, hW, hsame, ce, hce, hO⟩ := X₁.ctorThrow0 hexec htr (own := own) (cls := cls) (names := names) (ic := ic) hown' hcls hnames h (fun x hx => nomatch hx) hfX hkX hcellA (by rw [hhp, hT]; exact Nat.le_refl _)
    (g := { method := m, pc := pc + 4, locals := ls, stack := .ref T.heap.size :: .ref T.heap.size :: rest, locked := none }) rfl hsize rfl rfl (rest := rest) rfl
    (by rw [hb]; exact d4) (by rw [hb]; exact d7) hout hRframes (by simp only [List.map_cons, List.sum_cons, hcat]; omega) hlocks
  obtain ⟨f1, f2⟩ := vx_frame hsame
  rw [hhp] at f1 f2
  have hWs : s.WarmedH U.vm := State.WarmedH.trans hW0 hW
  have hcl : s.vm.findClass cls = some ce.cls := by
    have h9 := hO.cls
    rw [hvm] at h9
    exact h9
  have hall : s.sameButNew ({ U with vm := s.vm } : State) locs mc ms := by
    subst hA
    obtain ⟨e1, e2⟩ := hsame
    rw [State.setFrames_setFrames] at e1
    have h2 : (T.setVm s.vm).sameButNew ({ U with vm := s.vm } : State) [] (0 + 1) (0 + 6) := ⟨e1, e2⟩
    have h3 := X.same.trans h2
    rw [List.append_nil] at h3
    exact h3.mono hc hs
  refine ⟨U, ?_, .threw T.heap.size, hrun, hend, Or.inr ⟨T.heap.size, rfl, cls, ce, locs, hx U hWs.alike f1 (fun q hq => f2 q hq (fun z hz => nomatch hz)), hce, hO.vm, hcl, hWs, hall, hf⟩⟩
  refine st1 _ ?_
  show Steps p.tables e below (T1.setTop { method := m, pc := pc + 3, locals := ls, stack := .ref T.heap.size :: rest, locked := none }) _
  jvm_step X₁.here [X₁.here.top, hexec, d3', Value.category]
  exact hsteps
/-- 'throw new E("text")': new; dup; ldc; invokespecial; athrow -/
theorem vx_throwS {cc : ByteArray} {pc : Nat} (hexec : p.tables.exec = Jvm.exec) (hb : c.code = cc) (hl : l.stackTraces = false) {own cls text : String} {names : List String} {ik is ic mc ms sa : Nat} {A : Nat → Prop}
    (hown : s.vm.findClass own = some m.cls) (hcls : Bundle.fit cls = true) (hnames : ∀ n ∈ names, Bundle.fit n = true)
    (hk : (Cond.classLink own ik cls).before args s = true) (hini : (Cond.initialized cls).before args s = true) (hstr : vk_R own is text sa s) (hat : ∀ w ∈ vx_atS own ic cls names, w.before args s = true)
    (hgood : ∀ w ∈ Cond.classLink own ik cls :: Cond.initialized cls :: vx_atS own ic cls names, vx_ot w = true)
    (hU : vx_Zq Bundle.tN "UNASSIGNED_STACK" Bundle.steD A s s.heap) (hN : vx_Zq Bundle.tN "SUPPRESSED_SENTINEL" Bundle.listD A s s.heap) (hS : va_S A s.heap H locs) (hsize : ls.size = c.maxLocals)
    (d0 : decode cc pc = .ok (.new ik, 3)) (d3 : decode cc (pc + 3) = .ok (.dup, 1)) (d4 : decode cc (pc + 4) = .ok (.ldc is, 2)) (d6 : decode cc (pc + 6) = .ok (.invokespecial ic, 3)) (d9 : decode cc (pc + 9) = .ok (.athrow, 1))
    (hout : ∀ x ∈ c.exceptionTable.toList, covers x (pc + 9) = false)
    (hRframes : names.length + 3 < R.frames) (hRlocals : (rest.map fun v => v.category).sum + (13 * (names.length + 1) + 43) ≤ R.locals) (hRcells : cells + 1 ≤ R.cells) (hRslots : slots + 6 ≤ R.slots) (hlocks : meth.locks = false)
    (hx : ∀ t : State, s.vm.Alike t.vm → H.size ≤ t.heap.size → (∀ q : Nat, q < H.size → t.heap[q]? = H[q]?) → XC cls s t)
    (hf : ∀ z ∈ locs, free z.base) (hc : cells + 1 ≤ mc) (hs : slots + 6 ≤ ms) :
    W p l e R s m args below meth c H locs cells slots (vx_MQ below Qc XC args s mc ms free) (F0 m pc ls rest) := by
  intro T hT X
  have htr : e.platform.stackTraces = false := (show e.platform.stackTraces = l.stackTraces by rw [X.admits.platform]).trans hl
  have Y := vx_rebase X (R' := { frames := R.frames, locals := R.locals, cells := 1, slots := 6 }) (Nat.le_refl _) (Nat.le_refl _) hRcells hRslots
  obtain ⟨s', hA⟩ : ∃ z, z = (T.setVm s.vm).setFrames (.invoking m args :: below) := ⟨_, rfl⟩
  rw [← hA] at Y
  have hvm : s'.vm = s.vm := by rw [hA]; rfl
  have hhp : s'.heap = H := by rw [hA]; exact hT
  have hW0 : s.WarmedH s'.vm := by rw [hvm]; exact State.WarmedH.refl s
  have hat' : ∀ w ∈ vx_atS own ic cls names, w.before args s' = true := fun w hw => vx_ot_at hW0 hvm.symm (hgood w (List.mem_cons_of_mem _ (List.mem_cons_of_mem _ hw))) (hat w hw)
  have hk' : (Cond.classLink own ik cls).before args s' = true := vx_ot_at hW0 hvm.symm (hgood _ List.mem_cons_self) hk
  have hini' : (Cond.initialized cls).before args s' = true := vx_ot_at hW0 hvm.symm (hgood _ (List.mem_cons_of_mem _ List.mem_cons_self)) hini
  have hU' : vx_Zq Bundle.tN "UNASSIGNED_STACK" Bundle.steD A s' s'.heap := by rw [hhp]; exact vx_Zq.moved hW0.alike (hU.kept hS.2.1)
  have hN' : vx_Zq Bundle.tN "SUPPRESSED_SENTINEL" Bundle.listD A s' s'.heap := by rw [hhp]; exact vx_Zq.moved hW0.alike (hN.kept hS.2.1)
  have h : ∀ w ∈ Bundle.ownAtoms own ic cls names, w.before args s' = true := vx_own hat' (vx_isRefq hU'.1) (vx_isRefq hN'.1) hU'.2.word hN'.2.word
  have hown' : s'.vm.findClass own = some m.cls := by rw [hvm]; exact hown
  have hins : (Cond.instantiable cls 6).before args s' = true := h _ (by simp [Bundle.ownAtoms])
  obtain ⟨vm₁, cX, kX, hfX, hkX, -, -, X₁, st1⟩ := Y.newCold hexec (own := own) (C := cls) (index := ik) (n := 6) hown' hk' hins hini'
    (g := F0 m pc ls rest) rfl (by rw [hb]; exact d0) (Nat.le_refl _) (Nat.le_refl _)
  generalize hT1 : (T.setVm vm₁).pushCell { cls := cX, slots := kX.instanceTypes.map defaultValue, vm := .none } = T1 at X₁ st1
  have hcat : (Value.ref T.heap.size).category = 1 := rfl
  have hcellA : T1.heap[T.heap.size]? = some (freshCell cX kX) := by rw [← hT1]; exact State.heap_pushCell_size _ _
  have d3' : decode c.code (pc + 3) = .ok (.dup, 1) := by rw [hb]; exact d3
  have d4' : decode c.code (pc + 4) = .ok (.ldc is, 2) := by rw [hb]; exact d4
  have hstr' : vk_R own is text sa s' := vk_R.warm hW0 hstr
  obtain ⟨U, hsteps, hrun, hend, hW, hsame, ce, hce, hO⟩ := X₁.ctorThrowS hexec htr (own := own) (cls := cls) (names := names) (ic := ic) hown' hcls hnames h (fun x hx => nomatch hx) hfX hkX hcellA (by rw [hhp, hT]; exact Nat.le_refl _) (msg := .ref sa) rfl
    (g := { method := m, pc := pc + 6, locals := ls, stack := .ref sa :: .ref T.heap.size :: .ref T.heap.size :: rest, locked := none }) rfl hsize rfl rfl (rest := rest) rfl
    (by rw [hb]; exact d6) (by rw [hb]; exact d9) hout hRframes (by simp only [List.map_cons, List.sum_cons, hcat]; omega) hlocks
  obtain ⟨f1, f2⟩ := vx_frame hsame
  rw [hhp] at f1 f2
  have hWs : s.WarmedH U.vm := State.WarmedH.trans hW0 hW
  have hcl : s.vm.findClass cls = some ce.cls := by
    have h9 := hO.cls
    rw [hvm] at h9
    exact h9
  have hall : s.sameButNew ({ U with vm := s.vm } : State) locs mc ms := by
    subst hA
    obtain ⟨e1, e2⟩ := hsame
    rw [State.setFrames_setFrames] at e1
    have h2 : (T.setVm s.vm).sameButNew ({ U with vm := s.vm } : State) [] (0 + 1) (0 + 6) := ⟨e1, e2⟩
    have h3 := X.same.trans h2
    rw [List.append_nil] at h3
    exact h3.mono hc hs
  refine ⟨U, ?_, .threw T.heap.size, hrun, hend, Or.inr ⟨T.heap.size, rfl, cls, ce, locs, hx U hWs.alike f1 (fun q hq => f2 q hq (fun z hz => nomatch hz)), hce, hO.vm, hcl, hWs, hall, hf⟩⟩
  refine st1 _ ?_
  show Steps p.tables e below (T1.setTop { method := m, pc := pc + 3, locals := ls, stack := .ref T.heap.size :: rest, locked := none }) _
  jvm_step X₁.here [X₁.here.top, hexec, d3', Value.category]
  exact X₁.ldcString hexec (own := own) (text := text) (index := is) (a := sa) hown' hstr'.1 hstr'.2
    (g := { method := m, pc := pc + 4, locals := ls, stack := .ref T.heap.size :: .ref T.heap.size :: rest, locked := none }) rfl d4' _ hsteps
/-- 'throw new E("text")', the text by a wide index -/
theorem vx_throwSW {cc : ByteArray} {pc : Nat} (hexec : p.tables.exec = Jvm.exec) (hb : c.code = cc) (hl : l.stackTraces = false) {own cls text : String} {names : List String} {ik is ic mc ms sa : Nat} {A : Nat → Prop}
    (hown : s.vm.findClass own = some m.cls) (hcls : Bundle.fit cls = true) (hnames : ∀ n ∈ names, Bundle.fit n = true)
    (hk : (Cond.classLink own ik cls).before args s = true) (hini : (Cond.initialized cls).before args s = true) (hstr : vk_R own is text sa s) (hat : ∀ w ∈ vx_atS own ic cls names, w.before args s = true)
    (hgood : ∀ w ∈ Cond.classLink own ik cls :: Cond.initialized cls :: vx_atS own ic cls names, vx_ot w = true)
    (hU : vx_Zq Bundle.tN "UNASSIGNED_STACK" Bundle.steD A s s.heap) (hN : vx_Zq Bundle.tN "SUPPRESSED_SENTINEL" Bundle.listD A s s.heap) (hS : va_S A s.heap H locs) (hsize : ls.size = c.maxLocals)
    (d0 : decode cc pc = .ok (.new ik, 3)) (d3 : decode cc (pc + 3) = .ok (.dup, 1)) (d4 : decode cc (pc + 4) = .ok (.ldc_w is, 3)) (d7 : decode cc (pc + 7) = .ok (.invokespecial ic, 3)) (d10 : decode cc (pc + 10) = .ok (.athrow, 1))
    (hout : ∀ x ∈ c.exceptionTable.toList, covers x (pc + 10) = false)
    (hRframes : names.length + 3 < R.frames) (hRlocals : (rest.map fun v => v.category).sum + (13 * (names.length + 1) + 43) ≤ R.locals) (hRcells : cells + 1 ≤ R.cells) (hRslots : slots + 6 ≤ R.slots) (hlocks : meth.locks = false)
    (hx : ∀ t : State, s.vm.Alike t.vm → H.size ≤ t.heap.size → (∀ q : Nat, q < H.size → t.heap[q]? = H[q]?) → XC cls s t)
    (hf : ∀ z ∈ locs, free z.base) (hc : cells + 1 ≤ mc) (hs : slots + 6 ≤ ms) :
    W p l e R s m args below meth c H locs cells slots (vx_MQ below Qc XC args s mc ms free) (F0 m pc ls rest) := by
  intro T hT X
  have htr : e.platform.stackTraces = false := (show e.platform.stackTraces = l.stackTraces by rw [X.admits.platform]).trans hl
  have Y := vx_rebase X (R' := { frames := R.frames, locals := R.locals, cells := 1, slots := 6 }) (Nat.le_refl _) (Nat.le_refl _) hRcells hRslots
  obtain ⟨s', hA⟩ : ∃ z, z = (T.setVm s.vm).setFrames (.invoking m args :: below) := ⟨_, rfl⟩
  rw [← hA] at Y
  have hvm : s'.vm = s.vm := by rw [hA]; rfl
  have hhp : s'.heap = H := by rw [hA]; exact hT
  have hW0 : s.WarmedH s'.vm := by rw [hvm]; exact State.WarmedH.refl s
  have hat' : ∀ w ∈ vx_atS own ic cls names, w.before args s' = true := fun w hw => vx_ot_at hW0 hvm.symm (hgood w (List.mem_cons_of_mem _ (List.mem_cons_of_mem _ hw))) (hat w hw)
  have hk' : (Cond.classLink own ik cls).before args s' = true := vx_ot_at hW0 hvm.symm (hgood _ List.mem_cons_self) hk
  have hini' : (Cond.initialized cls).before args s' = true := vx_ot_at hW0 hvm.symm (hgood _ (List.mem_cons_of_mem _ List.mem_cons_self)) hini
  have hU' : vx_Zq Bundle.tN "UNASSIGNED_STACK" Bundle.steD A s' s'.heap := by rw [hhp]; exact vx_Zq.moved hW0.alike (hU.kept hS.2.1)
  have hN' : vx_Zq Bundle.tN "SUPPRESSED_SENTINEL" Bundle.listD A s' s'.heap := by rw [hhp]; exact vx_Zq.moved hW0.alike (hN.kept hS.2.1)
  have h : ∀ w ∈ Bundle.ownAtoms own ic cls names, w.before args s' = true := vx_own hat' (vx_isRefq hU'.1) (vx_isRefq hN'.1) hU'.2.word hN'.2.word
  have hown' : s'.vm.findClass own = some m.cls := by rw [hvm]; exact hown
  have hins : (Cond.instantiable cls 6).before args s' = true := h _ (by simp [Bundle.ownAtoms])
  obtain ⟨vm₁, cX, kX, hfX, hkX, -, -, X₁, st1⟩ := Y.newCold hexec (own := own) (C := cls) (index := ik) (n := 6) hown' hk' hins hini'
    (g := F0 m pc ls rest) rfl (by rw [hb]; exact d0) (Nat.le_refl _) (Nat.le_refl _)
  generalize hT1 : (T.setVm vm₁).pushCell { cls := cX, slots := kX.instanceTypes.map defaultValue, vm := .none } = T1 at X₁ st1
  have hcat : (Value.ref T.heap.size).category = 1 := rfl
  have hcellA : T1.heap[T.heap.size]? = some (freshCell cX kX) := by rw [← hT1]; exact State.heap_pushCell_size _ _
  have d3' : decode c.code (pc + 3) = .ok (.dup, 1) := by rw [hb]; exact d3
  have d4' : decode c.code (pc + 4) = .ok (.ldc_w is, 3) := by rw [hb]; exact d4
  have hstr' : vk_R own is text sa s' := vk_R.warm hW0 hstr
  obtain ⟨U, hsteps, hrun, hend, hW, hsame, ce, hce, hO⟩ := X₁.ctorThrowS hexec htr (own := own) (cls := cls) (names := names) (ic := ic) hown' hcls hnames h (fun x hx => nomatch hx) hfX hkX hcellA (by rw [hhp, hT]; exact Nat.le_refl _) (msg := .ref sa) rfl
    (g := { method := m, pc := pc + 7, locals := ls, stack := .ref sa :: .ref T.heap.size :: .ref T.heap.size :: rest, locked := none }) rfl hsize rfl rfl (rest := rest) rfl
    (by rw [hb]; exact d7) (by rw [hb]; exact d10) hout hRframes (by simp only [List.map_cons, List.sum_cons, hcat]; omega) hlocks
  obtain ⟨f1, f2⟩ := vx_frame hsame
  rw [hhp] at f1 f2
  have hWs : s.WarmedH U.vm := State.WarmedH.trans hW0 hW
  have hcl : s.vm.findClass cls = some ce.cls := by
    have h9 := hO.cls
    rw [hvm] at h9
    exact h9
  have hall : s.sameButNew ({ U with vm := s.vm } : State) locs mc ms := by
    subst hA
    obtain ⟨e1, e2⟩ := hsame
    rw [State.setFrames_setFrames] at e1
    have h2 : (T.setVm s.vm).sameButNew ({ U with vm := s.vm } : State) [] (0 + 1) (0 + 6) := ⟨e1, e2⟩
    have h3 := X.same.trans h2
    rw [List.append_nil] at h3
    exact h3.mono hc hs
  refine ⟨U, ?_, .threw T.heap.size, hrun, hend, Or.inr ⟨T.heap.size, rfl, cls, ce, locs, hx U hWs.alike f1 (fun q hq => f2 q hq (fun z hz => nomatch hz)), hce, hO.vm, hcl, hWs, hall, hf⟩⟩
  refine st1 _ ?_
  show Steps p.tables e below (T1.setTop { method := m, pc := pc + 3, locals := ls, stack := .ref T.heap.size :: rest, locked := none }) _
  jvm_step X₁.here [X₁.here.top, hexec, d3', Value.category]
  exact X₁.ldcStringW hexec (own := own) (text := text) (index := is) (a := sa) hown' hstr'.1 hstr'.2
    (g := { method := m, pc := pc + 4, locals := ls, stack := .ref T.heap.size :: .ref T.heap.size :: rest, locked := none }) rfl d4' _ hsteps
end Ends
section Bodies
variable {l : Launch}
theorem vx_ofW {y : MethodName} {ws ws' : List Cond} {rm : Room} {Pc : Array Value → State → Prop} {Qc : Array Value → State → Outcome → State → Prop} {XC : String → State → State → Prop} {mc ms : Nat} {free : Addr → Prop} {cc : ByteArray} {maxL : Nat} {ret : Option FieldType}
    (hy : plainName y.cls = true) (hw : ws = Cond.code y cc maxL ret :: ws')
    (body : ∀ p e s m args below meth c s₁, BodyLoose p l y (headSpec ws rm) cc maxL ret e s m args below meth c s₁ → c.maxLocals = maxL → (∀ x ∈ c.exceptionTable.toList, False) → Pc args s →
      W p l e (headSpec ws rm).room s m args below meth c s.heap [] 0 0 (vx_MQ below Qc XC args s mc ms free) (entryFrame m args maxL)) : vx_Met l y ws rm Pc Qc XC mc ms free := by
  refine MetFree.of_bodyS (code := cc) (maxLocals := maxL) (ret := ret) hy ?_ ?_
  · intro args s m h hn
    obtain ⟨meth, c, h1, h2, h3, h4, h5, h6, -, -⟩ := Cond.code_spec hn (atoms_spec (ws := ws) h _ (by rw [hw]; exact List.mem_cons_self))
    exact ⟨meth, c, h1, h2, h3, h4, h5, h6⟩
  · intro p e s m args below meth c s₁ B hml hP _
    have hh0 : s₁.heap = s.heap := by rw [B.state]; rfl
    have ht : ∀ x ∈ c.exceptionTable.toList, False := by
      obtain ⟨meth9, c9, h1, h2, -, -, -, -, h7, -⟩ := Cond.code_spec B.named (atoms_spec (ws := ws) B.pre _ (by rw [hw]; exact List.mem_cons_self))
      cases Option.some.inj (h1.symm.trans B.method)
      cases Option.some.inj (h2.symm.trans (Stand.of_body B).code)
      intro x hx
      rw [Array.isEmpty_iff.mp h7] at hx
      cases hx
    obtain ⟨t, a1, o, b1, b2, b3⟩ := body p e s m args below meth c s₁ B hml ht hP s₁ hh0 (Stand.of_body B)
    exact ⟨t, o, a1, b1, b2, b3⟩
/-- the table of a body with handlers -/
theorem vx_table {p : Program} {x y : MethodName} {S : Spec} {cc bytes : ByteArray} {maxL maxL' : Nat} {ret ret' : Option FieldType} {e : Env} {s s₁ : State} {m : MethodId} {args : Array Value} {below : List Frame} {meth : Method} {c : Code} {hh : List (Nat × Nat × Nat × Nat)}
    (B : BodyLoose p l y S cc maxL ret e s m args below meth c s₁) (h : (Cond.codeWith y bytes maxL' ret' hh).before args s = true) : c.exceptionTable.toList = tableOf hh := by
  obtain ⟨m9, meth9, c9, hn9, h1, h2, -, -, h6, -⟩ := Cond.codeWith_spec h
  cases Option.some.inj (hn9.symm.trans B.named)
  cases Option.some.inj (h1.symm.trans B.method)
  cases Option.some.inj (h2.symm.trans (Stand.of_body B).code)
  rw [← h6, table_eq]
end Bodies
end VXA
/-! ===== END ===== -/
/-! ===== BEGIN a static call of a method with an exception table ===== -/
section VXS
variable {p : Program} {l : Launch} {e : Env} {R : Room} {s : State} {m : MethodId} {args : Array Value} {below : List Frame} {meth : Method} {c : Code} {T : State} {H : Heap} {locs : List Loc} {cells slots : Nat}
abbrev vx_CSW (R : Room) (s : State) (args : Array Value) (own : String) (index : Nat) (y : MethodName) (bytes : ByteArray) (maxL : Nat) (ret : Option FieldType) (hh : List (Nat × Nat × Nat × Nat)) (ws : List Cond) (rm : Room) (mc ms n : Nat) : Prop :=
  (rm.cells = mc ∧ rm.slots = ms ∧ rm.frames + 1 ≤ R.frames ∧ 8 + (maxL + 11) + rm.locals ≤ R.locals ∧ (∀ w ∈ ws, ∀ (a' : Array Value) (U : State), s.WarmedH U.vm → w.before a' U = true) ∧ Cond.codeWith y bytes maxL ret hh ∈ ws) ∧
  (Cond.codeWith y bytes maxL ret hh).before args s = true ∧ (Cond.initialized y.cls).before args s = true ∧ (y.cls ≠ "java/lang/invoke/MethodHandle" ∧ y.cls ≠ "java/lang/invoke/VarHandle") ∧
  (∀ sig, parseMethodDescriptor y.desc = some sig → n = sig.parameters.length) ∧ (Cond.methodLink own index y).before args s = true ∧ (Cond.static y).before args s = true
theorem vx_cwSW {own : String} {index maxL mc ms : Nat} {y : MethodName} {bytes : ByteArray} {ret : Option FieldType} {hh : List (Nat × Nat × Nat × Nat)} {Ts ws ws' : List Cond} {rm : Room} (n : Nat) (ht : ∀ w ∈ Ts, w.before args s = true) (hT : GoodIn Ts (va_wsS own index y ws)) (hw : ws = Cond.codeWith y bytes maxL ret hh :: ws') (hrc : rm.cells = mc) (hrs : rm.slots = ms)
    (hd : y.cls ≠ "java/lang/invoke/MethodHandle" ∧ y.cls ≠ "java/lang/invoke/VarHandle" ∧ (parseMethodDescriptor y.desc).map (fun d => d.parameters.length) = some n) (hR : rm.frames + 1 ≤ R.frames ∧ 8 + (maxL + 11) + rm.locals ≤ R.locals) :
    vx_CSW R s args own index y bytes maxL ret hh ws rm mc ms n := by
  have ok : ∀ w ∈ va_wsS own index y ws, w.before args s = true := fun w h => ht w (hT w h).1
  have hG : GoodIn Ts ws := fun w h => hT w (by unfold va_wsS; exact List.mem_append_right _ h)
  have hc : Cond.codeWith y bytes maxL ret hh ∈ ws := by rw [hw]; exact List.mem_cons_self
  refine ⟨⟨hrc, hrs, hR.1, hR.2, pay_in ht hG, hc⟩, ht _ (hG _ hc).1, ok _ (by simp [va_wsS]), ⟨hd.1, hd.2.1⟩, fun sig h => ?_, ok _ (by simp [va_wsS]), ok _ (by simp [va_wsS])⟩
  have h2 := hd.2.2
  rw [h] at h2
  exact (Option.some.inj h2).symm
theorem vx_callSW (X : Stand p l e R s m args below meth c T locs cells slots) (hexec : p.tables.exec = Jvm.exec) {own : String} {index : Nat} {y : MethodName} {bytes : ByteArray} {maxL : Nat} {ret : Option FieldType} {hh : List (Nat × Nat × Nat × Nat)}
    (hown : s.vm.findClass own = some m.cls) (hlink : (Cond.methodLink own index y).before args s = true) (hstat : (Cond.static y).before args s = true) (hinit : (Cond.initialized y.cls).before args s = true)
    (hcode : (Cond.codeWith y bytes maxL ret hh).before args s = true) (hy : y.cls ≠ "java/lang/invoke/MethodHandle" ∧ y.cls ≠ "java/lang/invoke/VarHandle")
    {W9 : Nat} {Pre : Pt → Array Value → Prop} {Post : Pt → Array Value → Option Value → Pt → Prop} (hK : Back l R p e below s args y 3 W9 Pre Post)
    {g : JFrame} (hg : g.method = m) (hsize : g.locals.size = c.maxLocals) {argsL rest : List Value} (hlen : ∀ sig, parseMethodDescriptor y.desc = some sig → argsL.length = sig.parameters.length)
    (hstack : g.stack = argsL.reverse ++ rest) (hW : 2 * g.monitorRoom + (rest.map fun v => v.category).sum ≤ W9) (hdg : decode c.code g.pc = .ok (.invokestatic index, 3))
    (hpre : ∀ vm₁, s.WarmedH vm₁ → Pre ⟨T.setVm vm₁, locs, cells, slots⟩ argsL.toArray) :
    ∃ (v : Option Value) (vm₁ : Vm) (B : Pt), s.WarmedH vm₁ ∧ Stand p l e R s m args below meth c B.U B.locs B.cells B.slots ∧ Post ⟨T.setVm vm₁, locs, cells, slots⟩ argsL.toArray v B ∧
      ∀ target, Steps p.tables e below (B.U.setTop { g with pc := g.pc + 3, stack := v.toList ++ rest }) target → Steps p.tables e below (T.setTop g) target := by
  obtain ⟨mk, methM, cM, hnamed, hmethM, -, -, -, -, -, -, hsigM⟩ := Cond.codeWith_spec hcode
  have hstatic : methM.isStatic = true := Cond.static_spec hnamed hmethM hstat
  obtain ⟨kP, hkP, -⟩ := className_of_methodNamed hnamed
  have hinitP : kP.init = .initialized := Cond.initialized_spec (findClass_of_methodNamed hnamed) hkP hinit
  obtain ⟨vm₁, X₁, hstep₁⟩ := X.invokestatic hexec hown hlink hnamed hmethM hstatic hkP hinitP hy (g := g) hg (argsL := argsL) (rest := rest) (hlen _ hsigM) hstack hdg
  obtain ⟨v, B, X', hpost, hsteps⟩ := hK m meth c ⟨T.setVm vm₁, locs, cells, slots⟩ { g with stack := rest } (.invokestatic index) mk argsL.toArray X₁ hg hsize hdg hW (X₁.named hnamed) (hpre vm₁ X₁.warmed)
  exact ⟨v, vm₁, B, X₁.warmed, X', hpost, fun target h => hstep₁ _ fun acts => by rw [doInvoke_state]; exact hsteps.trans h⟩
theorem vx_runSW {y : MethodName} {bytes cc : ByteArray} {maxL nL mc ms n index : Nat} {ret : Option FieldType} {hh : List (Nat × Nat × Nat × Nat)} {ws : List Cond} {rm : Room} {Pc : Array Value → State → Prop} {Qc : Array Value → State → Outcome → State → Prop} {free : Addr → Prop} {Ts : List Cond} {own : String} {As rest : List Value} {g : JFrame}
    (S : CallFix p m c cc nL s args Ts own) (hM : Met l y ws rm Pc Qc mc ms free) (cw : vx_CSW R s args own index y bytes maxL ret hh ws rm mc ms n) (hp : PreS s H Pc As)
    (hg : g.method = m) (hn : As.length = n) (hsize : g.locals.size = nL) (hstack : g.stack = As.reverse ++ rest) (hW : 2 * g.monitorRoom + (rest.map fun v => v.category).sum ≤ 8) (hdg : decode cc g.pc = .ok (.invokestatic index, 3)) (hf : cells + mc ≤ R.cells ∧ slots + ms ≤ R.slots) :
    va_Run p l e R s m args below meth c H locs cells slots mc ms g rest (Qc As.toArray) (free) := by
  obtain ⟨⟨hrc, hrs, hfr, hlo, hws, hcw⟩, hcode, hini, hy, hlen, hl, hstt⟩ := cw
  have hK : Back l R p e below s args y 3 8 (PreOf R mc ms Pc) (PostOf Qc mc ms free) := va_backW (hh := hh) (bytes := bytes) (maxL := maxL) (ret := ret) hM hp.1 hrc hrs hfr hlo hws hcw (fun a' U hW => word_at hW (Or.inl (by first | rfl | simp [Cond.onTables, Cond.keeps, Cond.steady])) hini)
  obtain ⟨hx, hb, hml, ho, -⟩ := S
  intro T hT X
  obtain ⟨v, vm₁, ⟨U', l2, c2, s2⟩, hW₁, X', ⟨g', mk, t, L, e1, e2, hq, h1, hL, h2, h3⟩, st⟩ := vx_callSW X hx (hh := hh) (bytes := bytes) (maxL := maxL) (ret := ret) ho hl hstt hini hcode hy hK hg (hsize.trans hml.symm) (argsL := As) (rest := rest) (fun sig h => hn.trans (hlen sig h)) hstack hW (by rw [hb]; exact hdg)
    (fun vm₁ hW₁ => ⟨hf.1, hf.2, hp.2 (T.setVm vm₁) hT hW₁⟩)
  dsimp only [Pt.U, Pt.locs, Pt.cells, Pt.slots] at X' e1 e2 h1 h2 h3 st
  subst h1; subst h2; subst h3
  exact ⟨v, (T.setVm vm₁).calling g' mk As.toArray, t, U', L, hT, X', hL, e1, e2, hq, st⟩
/-- not caught here, past rows that name other classes: it goes on to the caller -/
theorem vx_outP {p : Program} {l : Launch} {e : Env} {R : Room} {s : State} {m : MethodId} {args : Array Value} {below : List Frame} {meth : Method} {c : Code} {H : Heap} {locs : List Loc} {cells slots : Nat} {free : Addr → Prop} {ls : Array Slot} {rest : List Value} {Qc : Array Value → State → Outcome → State → Prop} {XC : String → State → State → Prop}
    {pc : Nat} {own E : String} {ce : Cell} {q : Addr} {mc ms : Nat} (hown : s.vm.findClass own = some m.cls) (hlocks : meth.locks = false)
    (hpass : ∀ z ∈ c.exceptionTable.toList, covers z pc = false ∨ (z.catchType ≠ 0 ∧ ∃ nm : String, (Cond.classLink own z.catchType nm).before args s = true ∧ va_Nc E nm s)) (hcell : H[q]? = some ce) (hv : ce.vm = .none) (hcl : s.vm.findClass E = some ce.cls)
    (hx : ∀ t : State, t.heap = H → s.vm.Alike t.vm → XC E s t) (hf : ∀ z ∈ locs, free z.base) (hc : cells ≤ mc) (hs : slots ≤ ms) :
    vx_W p l e R s m args below meth c H locs cells slots (vx_MQ below Qc XC args s mc ms free) (F0 m pc ls rest) q := by
  intro T hT X
  have hpl : e.platform.magicAccessors = ({} : Platform).magicAccessors := by rw [X.admits.platform]
  obtain ⟨vm', hW', X', st⟩ := X.outThrough hlocks q (g := F0 m pc ls rest) rfl rfl rfl (cell := ce) (by rw [hT]; exact hcell) (by rw [hv]; rfl)
    (by obtain ⟨k9, h9, -⟩ := Vm.findClass_spec hcl; exact ⟨k9, h9⟩) (fun z hz => by
      rcases hpass z hz with h | ⟨hz0, nm, hl1, hn1⟩
      · exact Or.inl h
      · obtain ⟨c6, hc6, hcl6⟩ := Cond.classLink_spec hown hl1 e.platform hpl
        obtain ⟨a8, b8, h1, h2, h3⟩ := hn1
        cases Option.some.inj (h1.symm.trans hcl)
        cases Option.some.inj (h2.symm.trans hc6)
        exact Or.inr ⟨hz0, _, hcl6, h3⟩)
  obtain ⟨g₀, hfr⟩ := X'.frames_eq
  have hcell9 : ((T.setVm vm').setFrames (.throwing q :: below)).heap[q]? = some ce := by
    show T.heap[q]? = some ce
    rw [hT]; exact hcell
  have hend : Ended ((T.setVm vm').setFrames (.throwing q :: below)) below (.threw q) := State.frames_setFrames _ (State.cur_lt_of_frames hfr)
  refine ⟨(T.setVm vm').setFrames (.throwing q :: below), ?_, .threw q, X'.here.running, hend, Or.inr ⟨q, rfl, E, ce, locs, hx _ hT (X'.ends _).1.alike, hcell9, hv, hcl, (X'.ends _).1, (X'.ends _).2.mono hc hs, hf⟩⟩
  rw [X.pushThrowing_eq]
  exact st
/-- a thing of a world lies in the heap -/
theorem vx_lt {D : va_G} {cl : List vw_C} {ws : va_W} {H1 : Heap} (h : va_P D cl ws H1) {k : Nat} {q : Nat × va_E} (hk : ws[k]? = some q) : q.1 < H1.size := (h k q hk).lt
end VXS
/-! ===== END ===== -/
/-! ===== BEGIN methods with a table of their own: called by a name, returning or throwing ===== -/
section VXH
/-! vx_backW, vx_callVX, vx_callSX, vx_callVW, vx_runVW, vx_runVX, vx_runSX, vx_ofWH follow the same proofs as their sisters above (Free/Laws.lean, Shelf42/LK1.lean); vx_outP calls Shelf42/NT130.lean (outThrough). -/
section
variable {l : Launch} {R : Room} {p : Program} {e : Env} {below : List Frame} {s : State} {sargs : Array Value} {y : MethodName} {len W9 : Nat}
theorem vx_backW {ws : List Cond} {rm : Room} {Pc : Array Value → State → Prop} {Qc : Array Value → State → Outcome → State → Prop} {XC : String → State → State → Prop} {mc ms : Nat} {free : Addr → Prop} {bytes : ByteArray} {maxL : Nat} {ret : Option FieldType} {hh : List (Nat × Nat × Nat × Nat)}
    (hM : vx_Met l y ws rm Pc Qc XC mc ms free) (hblind : FrameBlind Pc) (hrc : rm.cells = mc) (hrs : rm.slots = ms)
    (hframes : rm.frames + 1 ≤ R.frames) (hlocals : W9 + (maxL + 11) + rm.locals ≤ R.locals)
    (hws : ∀ w ∈ ws, ∀ a' U, s.WarmedH U.vm → w.before a' U = true) (hcode : Cond.codeWith y bytes maxL ret hh ∈ ws) (hinit : ∀ a' U, s.WarmedH U.vm → (Cond.initialized y.cls).before a' U = true) :
    vx_Back l R p e below s sargs y len W9 (PreOf R mc ms Pc) (PostOf Qc mc ms free) (vx_Post XC mc ms free) := by
  intro m meth c A g ig mk a X hg hsize hdg hW hn hp
  have h1 : (headSpec ws rm).pre.before a A.U = true := atoms_intro fun w hw => hws w hw _ _ X.warmed
  have h2 : (Cond.codeWith y bytes maxL ret hh).before a A.U = true := hws _ hcode _ _ X.warmed
  have h3 : (Cond.initialized y.cls).before a A.U = true := hinit _ _ X.warmed
  have h4 : A.cells + (headSpec ws rm).room.cells ≤ R.cells := by rw [show (headSpec ws rm).room.cells = mc from hrc]; exact hp.1
  have h5 : A.slots + (headSpec ws rm).room.slots ≤ R.slots := by rw [show (headSpec ws rm).room.slots = ms from hrs]; exact hp.2.1
  have hPc : Pc a (A.U.calling g mk a) := hblind _ _ _ _ hp.2.2
  obtain ⟨U, Ls, c0, s0⟩ := A
  dsimp only [Pt.U, Pt.locs, Pt.cells, Pt.slots] at h1 h2 h3 h4 h5 X hn hPc ⊢
  obtain ⟨m9, methY, cY, hn9, hmY, hcY, -, hlY, -⟩ := Cond.codeWith_spec h2
  cases Option.some.inj (hn9.symm.trans hn)
  obtain ⟨kY, hkY, -⟩ := className_of_methodNamed hn
  have hinitY : kY.init = .initialized := Cond.initialized_spec (findClass_of_methodNamed hn) hkY h3
  have h : At U g.method c below := by rw [hg]; exact X.here
  have hlocals9 : W9 + (maxL + 11) + (headSpec ws rm).room.locals ≤ R.locals := hlocals
  have happ : (headSpec ws rm).appliesLoose y e.platform (U.calling g mk a) = true :=
    Spec.appliesLoose_calling (g := g) h hdg hn hkY hinitY
      (X.room_calling (g := g) (R' := (headSpec ws rm).room) hsize hmY hcY hframes (by rw [hlY]; omega) h4 h5) h1
  obtain ⟨mid, hmid⟩ := h.above
  have hfr : (U.setTop g).frames = (.java g :: mid) ++ below := by rw [State.frames_setTop' g h.top, hmid]; rfl
  obtain ⟨o, s₂, hsteps, -, hend, hq⟩ := Steps.callFree hM p X.admits X.cas X.clock (acts := []) hfr happ hPc trivial
  have hq' : vx_Q Qc XC mc ms free a (U.calling g mk a) o s₂ := hq
  rw [State.frames_setTop' g h.top] at hend
  obtain ⟨g₀, hg0⟩ := Option.isSome_iff_exists.mp h.top
  obtain ⟨r, hr⟩ := State.topJava?_eq_some.mp hg0
  have hr' : (({ U with heap := s₂.heap, slotsUsed := s₂.slotsUsed } : State).setVm s₂.vm).frames = .java g₀ :: r := hr
  rcases hq' with ⟨hqc, L, hfe, hL⟩ | ⟨q, rfl, E, ce, L, hx, hce, hcv, hcl, hW₂, hsm, hL⟩
  · obtain ⟨⟨v, rfl⟩, hW₂, e2, q2, q3, q4, q5, q6⟩ := id hfe
    have e3 : s₂ = ({ (U.calling g mk a).setFrames s₂.frames with heap := s₂.heap, slotsUsed := s₂.slotsUsed } : State).setVm s₂.vm := by
      have : s₂ = ({ s₂ with vm := (U.calling g mk a).vm } : State).setVm s₂.vm := rfl
      rw [e2] at this
      exact this
    obtain ⟨c₂, i₂, len₂, hc₂, hd₂, hf₂⟩ := hend
    have hW' : U.WarmedH s₂.vm := hW₂
    have hcc : c₂ = c := by
      have h1 : s₂.code? g.method = U.code? g.method := by
        rw [State.code?_eq, State.code?_eq, hW'.alike.method?]
      exact Option.some.inj (hc₂.symm.trans (h1.trans h.code))
    subst hcc
    have hlen : len₂ = len := by rw [hdg] at hd₂; cases hd₂; rfl
    subst hlen
    have hs₂ : s₂ = (({ U with heap := s₂.heap, slotsUsed := s₂.slotsUsed } : State).setVm s₂.vm).setTop { g with pc := g.pc + len₂, stack := v.toList ++ g.stack } := by
      refine e3.trans ?_
      rw [hf₂, State.calling_eq h.top, State.setFrames_setFrames, State.setTop_of_frames _ hr', hr]
      rfl
    have hsame : U.sameButNew ({ U with heap := s₂.heap, slotsUsed := s₂.slotsUsed } : State) L mc ms := by
      refine ⟨?_, q2, q3, q4, q5, q6⟩
      obtain ⟨t, ht, -⟩ := State.frames_cons hr
      show ({ U with heap := s₂.heap, slotsUsed := s₂.slotsUsed } : State) = { U.setFrames U.frames with heap := s₂.heap, slotsUsed := s₂.slotsUsed }
      rw [State.setFrames_self ht]
    subst hg
    refine Or.inl ⟨v, ⟨(({ U with heap := s₂.heap, slotsUsed := s₂.slotsUsed } : State).setVm s₂.vm), Ls ++ L, c0 + mc, s0 + ms⟩,
      ⟨X.admits, X.cas, X.clock, X.frames, X.room, X.hears, X.method, X.code, (X.here.setHeapUsed s₂.heap s₂.slotsUsed).setVm hW'.alike, X.tail, State.WarmedH.trans X.warmed hW', X.limits, X.bytes, X.same.trans (hsame.setVm s.vm)⟩,
      ⟨g, mk, s₂, L, rfl, rfl, hqc, rfl, hL, rfl, rfl⟩, ?_⟩
    show Steps p.tables e below _ ((({ U with heap := s₂.heap, slotsUsed := s₂.slotsUsed } : State).setVm s₂.vm).setTop { g with pc := g.pc + len₂, stack := v.toList ++ g.stack })
    rw [← hs₂]
    exact hsteps
  · obtain ⟨e2, q2, q3, q4, q5, q6⟩ := id hsm
    have e3 : s₂ = ({ (U.calling g mk a).setFrames s₂.frames with heap := s₂.heap, slotsUsed := s₂.slotsUsed } : State).setVm s₂.vm := by
      have : s₂ = ({ s₂ with vm := (U.calling g mk a).vm } : State).setVm s₂.vm := rfl
      rw [e2] at this
      exact this
    have hf₂ : s₂.frames = .throwing q :: .java g :: U.frames.tail := hend
    have hW' : U.WarmedH s₂.vm := hW₂
    have hs₂ : s₂ = ((({ U with heap := s₂.heap, slotsUsed := s₂.slotsUsed } : State).setVm s₂.vm).setTop g).pushFrame (.throwing q) := by
      refine e3.trans ?_
      rw [hf₂, State.calling_eq h.top, State.setFrames_setFrames, State.pushFrame, State.frames_setTop _ hr', State.setTop_of_frames _ hr', State.setFrames_setFrames, hr]
      rfl
    have hsame : U.sameButNew ({ U with heap := s₂.heap, slotsUsed := s₂.slotsUsed } : State) L mc ms := by
      refine ⟨?_, q2, q3, q4, q5, q6⟩
      obtain ⟨t, ht, -⟩ := State.frames_cons hr
      show ({ U with heap := s₂.heap, slotsUsed := s₂.slotsUsed } : State) = { U.setFrames U.frames with heap := s₂.heap, slotsUsed := s₂.slotsUsed }
      rw [State.setFrames_self ht]
    subst hg
    refine Or.inr ⟨q, ⟨(({ U with heap := s₂.heap, slotsUsed := s₂.slotsUsed } : State).setVm s₂.vm), Ls ++ L, c0 + mc, s0 + ms⟩,
      ⟨X.admits, X.cas, X.clock, X.frames, X.room, X.hears, X.method, X.code, (X.here.setHeapUsed s₂.heap s₂.slotsUsed).setVm hW'.alike, X.tail, State.WarmedH.trans X.warmed hW', X.limits, X.bytes, X.same.trans (hsame.setVm s.vm)⟩,
      ⟨g, mk, s₂, L, E, ce, rfl, rfl, hx, hce, hcv, hcl, rfl, hL, rfl, rfl⟩, ?_⟩
    show Steps p.tables e below _ (((({ U with heap := s₂.heap, slotsUsed := s₂.slotsUsed } : State).setVm s₂.vm).setTop g).pushFrame (.throwing q))
    rw [← hs₂]
    exact hsteps
end
variable {p : Program} {l : Launch} {e : Env} {R : Room} {s : State} {m : MethodId} {args : Array Value} {below : List Frame} {meth : Method} {c : Code} {T : State} {H : Heap} {locs : List Loc} {cells slots : Nat}
theorem vx_callVX (X : Stand p l e R s m args below meth c T locs cells slots) (hexec : p.tables.exec = Jvm.exec) {own C : String} {index : Nat} {y : MethodName} {bytes : ByteArray} {maxL : Nat} {ret : Option FieldType} {hh : List (Nat × Nat × Nat × Nat)}
    (hown : s.vm.findClass own = some m.cls) (hlink : (Cond.methodLink own index y).before args s = true) (hinst : (Cond.instanceMethod y).before args s = true) (hsel : (Cond.selects C y y).before args s = true)
    (hcode : (Cond.codeWith y bytes maxL ret hh).before args s = true) (hy : y.cls ≠ "java/lang/invoke/MethodHandle" ∧ y.cls ≠ "java/lang/invoke/VarHandle")
    {W9 : Nat} {Pre : Pt → Array Value → Prop} {Post : Pt → Array Value → Option Value → Pt → Prop} {PostX : Pt → Array Value → Addr → Pt → Prop} (hK : vx_Back l R p e below s args y 3 W9 Pre Post PostX)
    {b : Addr} {cellB : Cell} (hcell : T.heap[b]? = some cellB) (hobj : cellB.vm.isStatics = false) (hcls : s.vm.findClass C = some cellB.cls)
    {g : JFrame} (hg : g.method = m) (hsize : g.locals.size = c.maxLocals) {argsL rest : List Value} (hlen : ∀ sig, parseMethodDescriptor y.desc = some sig → argsL.length = sig.parameters.length)
    (hstack : g.stack = argsL.reverse ++ .ref b :: rest) (hW : 2 * g.monitorRoom + (rest.map fun v => v.category).sum ≤ W9) (hdg : decode c.code g.pc = .ok (.invokevirtual index, 3))
    (hpre : ∀ vm₁, s.WarmedH vm₁ → Pre ⟨T.setVm vm₁, locs, cells, slots⟩ (Value.ref b :: argsL).toArray) :
    (∃ (v : Option Value) (vm₁ : Vm) (B : Pt), s.WarmedH vm₁ ∧ Stand p l e R s m args below meth c B.U B.locs B.cells B.slots ∧ Post ⟨T.setVm vm₁, locs, cells, slots⟩ (Value.ref b :: argsL).toArray v B ∧
      ∀ target, Steps p.tables e below (B.U.setTop { g with pc := g.pc + 3, stack := v.toList ++ rest }) target → Steps p.tables e below (T.setTop g) target) ∨
    (∃ (q : Addr) (vm₁ : Vm) (B : Pt), s.WarmedH vm₁ ∧ Stand p l e R s m args below meth c B.U B.locs B.cells B.slots ∧ PostX ⟨T.setVm vm₁, locs, cells, slots⟩ (Value.ref b :: argsL).toArray q B ∧
      Steps p.tables e below (T.setTop g) ((B.U.setTop { g with stack := rest }).pushFrame (.throwing q))) := by
  obtain ⟨mk, methM, hnamed, hmethM, hstM, habM⟩ := Cond.instanceMethod_spec hinst
  obtain ⟨m8, methM', cM, hn8, hmethM', -, -, -, -, -, -, hsigM⟩ := Cond.codeWith_spec hcode
  cases Option.some.inj (hn8.symm.trans hnamed)
  cases hmethM.symm.trans hmethM'
  obtain ⟨c2, r2, m2, q1, q2, q3, q4, kP, hkP, hkPi⟩ := Cond.selects_spec hsel
  cases hcls.symm.trans q1
  cases (State.methodFound?_of_named hnamed hy).symm.trans q2
  cases hnamed.symm.trans q3
  have hselP : selectMethod e.platform s.vm cellB.cls mk = .method mk := by rw [Launch.admits_selectMethod X.admits]; exact q4
  obtain ⟨vm₁, X₁, hstep₁⟩ := X.invokevirtual hexec hown hlink hnamed hmethM hstM hkP hkPi hy (a := b) (cell := cellB) hcell
    (fun z h => by rw [h] at hobj; cases hobj) hselP hmethM habM hkP hkPi (g := g) hg (argsL := argsL) (rest := rest) (hlen _ hsigM) hstack hdg
  rcases hK m meth c ⟨T.setVm vm₁, locs, cells, slots⟩ { g with stack := rest } (.invokevirtual index) mk (Value.ref b :: argsL).toArray X₁ hg hsize hdg hW (X₁.named hnamed) (hpre vm₁ X₁.warmed) with ⟨v, B, X', hpost, hsteps⟩ | ⟨q, B, X', hpost, hsteps⟩
  · exact Or.inl ⟨v, vm₁, B, X₁.warmed, X', hpost, fun target h => hstep₁ _ fun acts => by rw [doInvoke_state]; exact hsteps.trans h⟩
  · exact Or.inr ⟨q, vm₁, B, X₁.warmed, X', hpost, hstep₁ _ fun acts => by rw [doInvoke_state]; exact hsteps⟩
theorem vx_callSX (X : Stand p l e R s m args below meth c T locs cells slots) (hexec : p.tables.exec = Jvm.exec) {own : String} {index : Nat} {y : MethodName} {bytes : ByteArray} {maxL : Nat} {ret : Option FieldType} {hh : List (Nat × Nat × Nat × Nat)}
    (hown : s.vm.findClass own = some m.cls) (hlink : (Cond.methodLink own index y).before args s = true) (hstat : (Cond.static y).before args s = true) (hinit : (Cond.initialized y.cls).before args s = true)
    (hcode : (Cond.codeWith y bytes maxL ret hh).before args s = true) (hy : y.cls ≠ "java/lang/invoke/MethodHandle" ∧ y.cls ≠ "java/lang/invoke/VarHandle")
    {W9 : Nat} {Pre : Pt → Array Value → Prop} {Post : Pt → Array Value → Option Value → Pt → Prop} {PostX : Pt → Array Value → Addr → Pt → Prop} (hK : vx_Back l R p e below s args y 3 W9 Pre Post PostX)
    {g : JFrame} (hg : g.method = m) (hsize : g.locals.size = c.maxLocals) {argsL rest : List Value} (hlen : ∀ sig, parseMethodDescriptor y.desc = some sig → argsL.length = sig.parameters.length)
    (hstack : g.stack = argsL.reverse ++ rest) (hW : 2 * g.monitorRoom + (rest.map fun v => v.category).sum ≤ W9) (hdg : decode c.code g.pc = .ok (.invokestatic index, 3))
    (hpre : ∀ vm₁, s.WarmedH vm₁ → Pre ⟨T.setVm vm₁, locs, cells, slots⟩ argsL.toArray) :
    (∃ (v : Option Value) (vm₁ : Vm) (B : Pt), s.WarmedH vm₁ ∧ Stand p l e R s m args below meth c B.U B.locs B.cells B.slots ∧ Post ⟨T.setVm vm₁, locs, cells, slots⟩ argsL.toArray v B ∧
      ∀ target, Steps p.tables e below (B.U.setTop { g with pc := g.pc + 3, stack := v.toList ++ rest }) target → Steps p.tables e below (T.setTop g) target) ∨
    (∃ (q : Addr) (vm₁ : Vm) (B : Pt), s.WarmedH vm₁ ∧ Stand p l e R s m args below meth c B.U B.locs B.cells B.slots ∧ PostX ⟨T.setVm vm₁, locs, cells, slots⟩ argsL.toArray q B ∧
      Steps p.tables e below (T.setTop g) ((B.U.setTop { g with stack := rest }).pushFrame (.throwing q))) := by
  obtain ⟨mk, methM, cM, hnamed, hmethM, -, -, -, -, -, -, hsigM⟩ := Cond.codeWith_spec hcode
  have hstatic : methM.isStatic = true := Cond.static_spec hnamed hmethM hstat
  obtain ⟨kP, hkP, -⟩ := className_of_methodNamed hnamed
  have hinitP : kP.init = .initialized := Cond.initialized_spec (findClass_of_methodNamed hnamed) hkP hinit
  obtain ⟨vm₁, X₁, hstep₁⟩ := X.invokestatic hexec hown hlink hnamed hmethM hstatic hkP hinitP hy (g := g) hg (argsL := argsL) (rest := rest) (hlen _ hsigM) hstack hdg
  rcases hK m meth c ⟨T.setVm vm₁, locs, cells, slots⟩ { g with stack := rest } (.invokestatic index) mk argsL.toArray X₁ hg hsize hdg hW (X₁.named hnamed) (hpre vm₁ X₁.warmed) with ⟨v, B, X', hpost, hsteps⟩ | ⟨q, B, X', hpost, hsteps⟩
  · exact Or.inl ⟨v, vm₁, B, X₁.warmed, X', hpost, fun target h => hstep₁ _ fun acts => by rw [doInvoke_state]; exact hsteps.trans h⟩
  · exact Or.inr ⟨q, vm₁, B, X₁.warmed, X', hpost, hstep₁ _ fun acts => by rw [doInvoke_state]; exact hsteps⟩
theorem vx_callVW (X : Stand p l e R s m args below meth c T locs cells slots) (hexec : p.tables.exec = Jvm.exec) {own C : String} {index : Nat} {y : MethodName} {bytes : ByteArray} {maxL : Nat} {ret : Option FieldType} {hh : List (Nat × Nat × Nat × Nat)}
    (hown : s.vm.findClass own = some m.cls) (hlink : (Cond.methodLink own index y).before args s = true) (hinst : (Cond.instanceMethod y).before args s = true) (hsel : (Cond.selects C y y).before args s = true)
    (hcode : (Cond.codeWith y bytes maxL ret hh).before args s = true) (hy : y.cls ≠ "java/lang/invoke/MethodHandle" ∧ y.cls ≠ "java/lang/invoke/VarHandle")
    {W9 : Nat} {Pre : Pt → Array Value → Prop} {Post : Pt → Array Value → Option Value → Pt → Prop} (hK : Back l R p e below s args y 3 W9 Pre Post)
    {b : Addr} {cellB : Cell} (hcell : T.heap[b]? = some cellB) (hobj : cellB.vm.isStatics = false) (hcls : s.vm.findClass C = some cellB.cls)
    {g : JFrame} (hg : g.method = m) (hsize : g.locals.size = c.maxLocals) {argsL rest : List Value} (hlen : ∀ sig, parseMethodDescriptor y.desc = some sig → argsL.length = sig.parameters.length)
    (hstack : g.stack = argsL.reverse ++ .ref b :: rest) (hW : 2 * g.monitorRoom + (rest.map fun v => v.category).sum ≤ W9) (hdg : decode c.code g.pc = .ok (.invokevirtual index, 3))
    (hpre : ∀ vm₁, s.WarmedH vm₁ → Pre ⟨T.setVm vm₁, locs, cells, slots⟩ (Value.ref b :: argsL).toArray) :
    ∃ (v : Option Value) (vm₁ : Vm) (B : Pt), s.WarmedH vm₁ ∧ Stand p l e R s m args below meth c B.U B.locs B.cells B.slots ∧ Post ⟨T.setVm vm₁, locs, cells, slots⟩ (Value.ref b :: argsL).toArray v B ∧
      ∀ target, Steps p.tables e below (B.U.setTop { g with pc := g.pc + 3, stack := v.toList ++ rest }) target → Steps p.tables e below (T.setTop g) target := by
  obtain ⟨mk, methM, hnamed, hmethM, hstM, habM⟩ := Cond.instanceMethod_spec hinst
  obtain ⟨m8, methM', cM, hn8, hmethM', -, -, -, -, -, -, hsigM⟩ := Cond.codeWith_spec hcode
  cases Option.some.inj (hn8.symm.trans hnamed)
  cases hmethM.symm.trans hmethM'
  obtain ⟨c2, r2, m2, q1, q2, q3, q4, kP, hkP, hkPi⟩ := Cond.selects_spec hsel
  cases hcls.symm.trans q1
  cases (State.methodFound?_of_named hnamed hy).symm.trans q2
  cases hnamed.symm.trans q3
  have hselP : selectMethod e.platform s.vm cellB.cls mk = .method mk := by rw [Launch.admits_selectMethod X.admits]; exact q4
  obtain ⟨vm₁, X₁, hstep₁⟩ := X.invokevirtual hexec hown hlink hnamed hmethM hstM hkP hkPi hy (a := b) (cell := cellB) hcell
    (fun z h => by rw [h] at hobj; cases hobj) hselP hmethM habM hkP hkPi (g := g) hg (argsL := argsL) (rest := rest) (hlen _ hsigM) hstack hdg
  obtain ⟨v, B, X', hpost, hsteps⟩ := hK m meth c ⟨T.setVm vm₁, locs, cells, slots⟩ { g with stack := rest } (.invokevirtual index) mk (Value.ref b :: argsL).toArray X₁ hg hsize hdg hW (X₁.named hnamed) (hpre vm₁ X₁.warmed)
  exact ⟨v, vm₁, B, X₁.warmed, X', hpost, fun target h => hstep₁ _ fun acts => by rw [doInvoke_state]; exact hsteps.trans h⟩
abbrev vx_CVW (R : Room) (s : State) (args : Array Value) (own C : String) (index : Nat) (y : MethodName) (bytes : ByteArray) (maxL : Nat) (ret : Option FieldType) (hh : List (Nat × Nat × Nat × Nat)) (ws : List Cond) (rm : Room) (mc ms n : Nat) : Prop :=
  (rm.cells = mc ∧ rm.slots = ms ∧ rm.frames + 1 ≤ R.frames ∧ 8 + (maxL + 11) + rm.locals ≤ R.locals ∧ (∀ w ∈ ws, ∀ (a' : Array Value) (U : State), s.WarmedH U.vm → w.before a' U = true) ∧ Cond.codeWith y bytes maxL ret hh ∈ ws) ∧
  (Cond.codeWith y bytes maxL ret hh).before args s = true ∧ (Cond.initialized y.cls).before args s = true ∧ (y.cls ≠ "java/lang/invoke/MethodHandle" ∧ y.cls ≠ "java/lang/invoke/VarHandle") ∧
  (∀ sig, parseMethodDescriptor y.desc = some sig → n = sig.parameters.length) ∧ (Cond.methodLink own index y).before args s = true ∧ (Cond.instanceMethod y).before args s = true ∧ (Cond.selects C y y).before args s = true
theorem vx_cwVW {own C : String} {index maxL mc ms : Nat} {y : MethodName} {bytes : ByteArray} {ret : Option FieldType} {hh : List (Nat × Nat × Nat × Nat)} {Ts ws ws' : List Cond} {rm : Room} (n : Nat) (ht : ∀ w ∈ Ts, w.before args s = true) (hT : GoodIn Ts (wsV own index C y ws)) (hw : ws = Cond.codeWith y bytes maxL ret hh :: ws') (hrc : rm.cells = mc) (hrs : rm.slots = ms)
    (hd : y.cls = C ∧ y.cls ≠ "java/lang/invoke/MethodHandle" ∧ y.cls ≠ "java/lang/invoke/VarHandle" ∧ (parseMethodDescriptor y.desc).map (fun d => d.parameters.length) = some n) (hR : rm.frames + 1 ≤ R.frames ∧ 8 + (maxL + 11) + rm.locals ≤ R.locals) :
    vx_CVW R s args own C index y bytes maxL ret hh ws rm mc ms n := by
  obtain ⟨hC, hd⟩ := hd
  subst hC
  have ok : ∀ w ∈ wsV own index y.cls y ws, w.before args s = true := fun w h => ht w (hT w h).1
  have hG : GoodIn Ts ws := fun w h => hT w (by unfold wsV; exact List.mem_append_right _ h)
  have hc : Cond.codeWith y bytes maxL ret hh ∈ ws := by rw [hw]; exact List.mem_cons_self
  refine ⟨⟨hrc, hrs, hR.1, hR.2, pay_in ht hG, hc⟩, ht _ (hG _ hc).1, ok _ (by simp [wsV]), ⟨hd.1, hd.2.1⟩, fun sig h => ?_, ok _ (by simp [wsV]), ok _ (by simp [wsV]), ok _ (by simp [wsV])⟩
  have h2 := hd.2.2
  rw [h] at h2
  exact (Option.some.inj h2).symm
theorem vx_runVW {y : MethodName} {bytes cc : ByteArray} {maxL nL mc ms n index : Nat} {ret : Option FieldType} {hh : List (Nat × Nat × Nat × Nat)} {ws : List Cond} {rm : Room} {Pc : Array Value → State → Prop} {Qc : Array Value → State → Outcome → State → Prop} {free : Addr → Prop} {Ts : List Cond} {own C : String} {b : Addr} {As rest : List Value} {g : JFrame}
    (S : CallFix p m c cc nL s args Ts own) (hM : Met l y ws rm Pc Qc mc ms free) (cw : vx_CVW R s args own C index y bytes maxL ret hh ws rm mc ms n) (hp : PreV s H C b Pc As)
    (hg : g.method = m) (hn : As.length = n) (hsize : g.locals.size = nL) (hstack : g.stack = As.reverse ++ .ref b :: rest) (hW : 2 * g.monitorRoom + (rest.map fun v => v.category).sum ≤ 8) (hdg : decode cc g.pc = .ok (.invokevirtual index, 3)) (hf : cells + mc ≤ R.cells ∧ slots + ms ≤ R.slots) :
    va_Run p l e R s m args below meth c H locs cells slots mc ms g rest (Qc (Value.ref b :: As).toArray) free := by
  obtain ⟨⟨hrc, hrs, hfr, hlo, hws, hcw⟩, hcode, hini, hy, hlen, hl, hin, hse⟩ := cw
  have hK : Back l R p e below s args y 3 8 (PreOf R mc ms Pc) (PostOf Qc mc ms free) := va_backW (hh := hh) (bytes := bytes) (maxL := maxL) (ret := ret) hM hp.1 hrc hrs hfr hlo hws hcw (fun a' U hW => word_at hW (Or.inl (by first | rfl | simp [Cond.onTables, Cond.keeps, Cond.steady])) hini)
  obtain ⟨hx, hb, hml, ho, -⟩ := S
  obtain ⟨-, ⟨cellB, hcB, hoB, hclB⟩, hPc⟩ := hp
  intro T hT X
  obtain ⟨v, vm₁, ⟨U', l2, c2, s2⟩, hW₁, X', ⟨g', mk, t, L, e1, e2, hq, h1, hL, h2, h3⟩, st⟩ := vx_callVW X hx (C := C) (hh := hh) (bytes := bytes) (maxL := maxL) (ret := ret) ho hl hin hse hcode hy hK (by rw [hT]; exact hcB) hoB hclB hg (hsize.trans hml.symm) (argsL := As) (rest := rest) (fun sig h => hn.trans (hlen sig h)) hstack hW (by rw [hb]; exact hdg)
    (fun vm₁ hW₁ => ⟨hf.1, hf.2, hPc (T.setVm vm₁) hT hW₁⟩)
  dsimp only [Pt.U, Pt.locs, Pt.cells, Pt.slots] at X' e1 e2 h1 h2 h3 st
  subst h1; subst h2; subst h3
  exact ⟨v, (T.setVm vm₁).calling g' mk (Value.ref b :: As).toArray, t, U', L, hT, X', hL, e1, e2, hq, st⟩
section
variable {y : MethodName} {bytes cc : ByteArray} {maxL nL mc ms n index : Nat} {ret : Option FieldType} {ws : List Cond} {rm : Room} {Pc : Array Value → State → Prop} {Qc : Array Value → State → Outcome → State → Prop} {XC : String → State → State → Prop} {free : Addr → Prop} {Ts : List Cond} {own C : String} {b : Addr} {As rest : List Value} {g : JFrame}
theorem vx_runVX {hh : List (Nat × Nat × Nat × Nat)} (S : CallFix p m c cc nL s args Ts own) (hM : vx_Met l y ws rm Pc Qc XC mc ms free) (cw : vx_CVW R s args own C index y bytes maxL ret hh ws rm mc ms n) (hp : PreV s H C b Pc As)
    (hg : g.method = m) (hn : As.length = n) (hsize : g.locals.size = nL) (hstack : g.stack = As.reverse ++ .ref b :: rest) (hW : 2 * g.monitorRoom + (rest.map fun v => v.category).sum ≤ 8) (hdg : decode cc g.pc = .ok (.invokevirtual index, 3)) (hf : cells + mc ≤ R.cells ∧ slots + ms ≤ R.slots) :
    vx_Run p l e R s m args below meth c H locs cells slots mc ms g rest (Qc (Value.ref b :: As).toArray) XC free := by
  obtain ⟨⟨hrc, hrs, hfr, hlo, hws, hcw⟩, hcode, hini, hy, hlen, hl, hin, hse⟩ := cw
  have hK : vx_Back l R p e below s args y 3 8 (PreOf R mc ms Pc) (PostOf Qc mc ms free) (vx_Post XC mc ms free) := vx_backW (hh := hh) (bytes := bytes) (maxL := maxL) (ret := ret) hM hp.1 hrc hrs hfr hlo hws hcw (fun a' U hW => word_at hW (Or.inl (by first | rfl | simp [Cond.onTables, Cond.keeps, Cond.steady])) hini)
  obtain ⟨hx, hb, hml, ho, -⟩ := S
  obtain ⟨-, ⟨cellB, hcB, hoB, hclB⟩, hPc⟩ := hp
  intro T hT X
  rcases vx_callVX X hx (C := C) (hh := hh) (bytes := bytes) (maxL := maxL) (ret := ret) ho hl hin hse hcode hy hK (by rw [hT]; exact hcB) hoB hclB hg (hsize.trans hml.symm) (argsL := As) (rest := rest) (fun sig h => hn.trans (hlen sig h)) hstack hW (by rw [hb]; exact hdg)
    (fun vm₁ hW₁ => ⟨hf.1, hf.2, hPc (T.setVm vm₁) hT hW₁⟩) with ⟨v, vm₁, ⟨U', l2, c2, s2⟩, hW₁, X', ⟨g', mk, t, L, e1, e2, hq, h1, hL, h2, h3⟩, st⟩ | ⟨q, vm₁, ⟨U', l2, c2, s2⟩, hW₁, X', ⟨g', mk, t, L, E, ce, e1, e2, hq, hce, hcv, hcl, h1, hL, h2, h3⟩, st⟩
  · dsimp only [Pt.U, Pt.locs, Pt.cells, Pt.slots] at X' e1 e2 h1 h2 h3 st
    subst h1; subst h2; subst h3
    exact Or.inl ⟨v, (T.setVm vm₁).calling g' mk (Value.ref b :: As).toArray, t, U', L, hT, X', hL, e1, e2, hq, st⟩
  · dsimp only [Pt.U, Pt.locs, Pt.cells, Pt.slots] at X' e1 e2 h1 h2 h3 st hcl
    subst h1; subst h2; subst h3
    exact Or.inr ⟨q, (T.setVm vm₁).calling g' mk (Value.ref b :: As).toArray, t, U', L, E, ce, hT, X', hL, e1, e2, hq, hce, hcv, vx_cls hW₁ hcl, st⟩
theorem vx_runSX {hh : List (Nat × Nat × Nat × Nat)} (S : CallFix p m c cc nL s args Ts own) (hM : vx_Met l y ws rm Pc Qc XC mc ms free) (cw : vx_CSW R s args own index y bytes maxL ret hh ws rm mc ms n) (hp : PreS s H Pc As)
    (hg : g.method = m) (hn : As.length = n) (hsize : g.locals.size = nL) (hstack : g.stack = As.reverse ++ rest) (hW : 2 * g.monitorRoom + (rest.map fun v => v.category).sum ≤ 8) (hdg : decode cc g.pc = .ok (.invokestatic index, 3)) (hf : cells + mc ≤ R.cells ∧ slots + ms ≤ R.slots) :
    vx_Run p l e R s m args below meth c H locs cells slots mc ms g rest (Qc As.toArray) XC free := by
  obtain ⟨⟨hrc, hrs, hfr, hlo, hws, hcw⟩, hcode, hini, hy, hlen, hl, hstt⟩ := cw
  have hK : vx_Back l R p e below s args y 3 8 (PreOf R mc ms Pc) (PostOf Qc mc ms free) (vx_Post XC mc ms free) := vx_backW (hh := hh) (bytes := bytes) (maxL := maxL) (ret := ret) hM hp.1 hrc hrs hfr hlo hws hcw (fun a' U hW => word_at hW (Or.inl (by first | rfl | simp [Cond.onTables, Cond.keeps, Cond.steady])) hini)
  obtain ⟨hx, hb, hml, ho, -⟩ := S
  intro T hT X
  rcases vx_callSX X hx (hh := hh) (bytes := bytes) (maxL := maxL) (ret := ret) ho hl hstt hini hcode hy hK hg (hsize.trans hml.symm) (argsL := As) (rest := rest) (fun sig h => hn.trans (hlen sig h)) hstack hW (by rw [hb]; exact hdg)
    (fun vm₁ hW₁ => ⟨hf.1, hf.2, hp.2 (T.setVm vm₁) hT hW₁⟩) with ⟨v, vm₁, ⟨U', l2, c2, s2⟩, hW₁, X', ⟨g', mk, t, L, e1, e2, hq, h1, hL, h2, h3⟩, st⟩ | ⟨q, vm₁, ⟨U', l2, c2, s2⟩, hW₁, X', ⟨g', mk, t, L, E, ce, e1, e2, hq, hce, hcv, hcl, h1, hL, h2, h3⟩, st⟩
  · dsimp only [Pt.U, Pt.locs, Pt.cells, Pt.slots] at X' e1 e2 h1 h2 h3 st
    subst h1; subst h2; subst h3
    exact Or.inl ⟨v, (T.setVm vm₁).calling g' mk As.toArray, t, U', L, hT, X', hL, e1, e2, hq, st⟩
  · dsimp only [Pt.U, Pt.locs, Pt.cells, Pt.slots] at X' e1 e2 h1 h2 h3 st hcl
    subst h1; subst h2; subst h3
    exact Or.inr ⟨q, (T.setVm vm₁).calling g' mk As.toArray, t, U', L, E, ce, hT, X', hL, e1, e2, hq, hce, hcv, vx_cls hW₁ hcl, st⟩
end
end VXH
theorem vx_ofWH {l : Launch} {y : MethodName} {ws ws' : List Cond} {rm : Room} {Pc : Array Value → State → Prop} {Qc : Array Value → State → Outcome → State → Prop} {XC : String → State → State → Prop} {mc ms : Nat} {free : Addr → Prop} {cc : ByteArray} {maxL : Nat} {ret : Option FieldType} {hh : List (Nat × Nat × Nat × Nat)}
    (hy : plainName y.cls = true) (hw : ws = Cond.codeWith y cc maxL ret hh :: ws')
    (body : ∀ p e s m args below meth c s₁, BodyLoose p l y (headSpec ws rm) cc maxL ret e s m args below meth c s₁ → c.maxLocals = maxL → Pc args s →
      W p l e (headSpec ws rm).room s m args below meth c s.heap [] 0 0 (vx_MQ below Qc XC args s mc ms free) (entryFrame m args maxL)) : vx_Met l y ws rm Pc Qc XC mc ms free := by
  refine MetFree.of_bodyS (code := cc) (maxLocals := maxL) (ret := ret) hy ?_ ?_
  · intro args s m h hn
    obtain ⟨m9, meth, c, hn9, h1, h2, h3, h4, -, h5, h6, -⟩ := Cond.codeWith_spec (atoms_spec (ws := ws) h _ (by rw [hw]; exact List.mem_cons_self))
    cases hn.symm.trans hn9
    exact ⟨meth, c, h1, h2, h3, h4, h5, h6⟩
  · intro p e s m args below meth c s₁ B hml hP _
    have hh0 : s₁.heap = s.heap := by rw [B.state]; rfl
    obtain ⟨t, a1, o, b1, b2, b3⟩ := body p e s m args below meth c s₁ B hml hP s₁ hh0 (Stand.of_body B)
    exact ⟨t, o, a1, b1, b2, b3⟩
/-! ===== END ===== -/
end
section
/-! ===== BEGIN printed: names, fields, word lists, decode rows ===== -/
def RX0 : String := "FundBook$Loan"
def TX0 : u_T := fun k => match k with
  | 0 => ("FundBook$Loan", "branch", "I", true)
  | 1 => ("FundBook$Loan", "product", "I", true)
  | 2 => ("FundBook$Loan", "rate", "I", true)
  | 3 => ("FundBook$Loan", "hasOption", "Z", true)
  | 4 => ("FundBook$Loan", "optionRate", "I", true)
  | 5 => ("FundBook$Loan", "parts", "[I", true)
  | 6 => ("FundBook$Loan", "fundingRates", "[I", true)
  | _ => ("FundBook$Loan", "paidParts", "I", false)
def tyX0 : Nat → FieldType := fun k => match k with
  | 0 => .int
  | 1 => .int
  | 2 => .int
  | 3 => .boolean
  | 4 => .int
  | 5 => .array .int
  | 6 => .array .int
  | _ => .int
abbrev wsX00 : List Cond := u_ws RX0 TX0 8
theorem nmX0 : ∀ a, a < 8 → ∀ b, b < 8 → a ≠ b → (TX0 a).2.1 ≠ (TX0 b).2.1 := by decide +kernel
theorem tyX0_ok : ∀ k, k < 8 → parseFieldDescriptor (TX0 k).2.2.1 = some (tyX0 k) := by decide +kernel
abbrev cX0_init : ByteArray := prog_2_method_1_code
def yX0_init : MethodName := ⟨RX0, "<init>", "(IIIZI[I[I)V"⟩
abbrev cX0_unpaid : ByteArray := prog_2_method_2_code
def yX0_unpaid : MethodName := ⟨RX0, "unpaid", "()I"⟩
abbrev cX0_partAhead : ByteArray := prog_2_method_3_code
def yX0_partAhead : MethodName := ⟨RX0, "partAhead", "(I)I"⟩
abbrev cX0_customerInterest : ByteArray := prog_2_method_4_code
def yX0_customerInterest : MethodName := ⟨RX0, "customerInterest", "()I"⟩
abbrev cX0_funding : ByteArray := prog_2_method_5_code
def yX0_funding : MethodName := ⟨RX0, "funding", "()I"⟩
abbrev cX0_optionCharge : ByteArray := prog_2_method_6_code
def yX0_optionCharge : MethodName := ⟨RX0, "optionCharge", "()I"⟩
abbrev cX0_ownMargin : ByteArray := prog_2_method_7_code
def yX0_ownMargin : MethodName := ⟨RX0, "ownMargin", "()I"⟩
abbrev cX0_payPart : ByteArray := prog_2_method_8_code
def yX0_payPart : MethodName := ⟨RX0, "payPart", "()V"⟩
abbrev cX0_settle : ByteArray := prog_2_method_9_code
def yX0_settle : MethodName := ⟨RX0, "settle", "()V"⟩
def RX1 : String := "FundBook$Replica"
def TX1 : u_T := fun k => match k with
  | 0 => ("FundBook$Replica", "amounts", "[I", true)
  | _ => ("FundBook$Replica", "rates", "[I", true)
def tyX1 : Nat → FieldType := fun k => match k with
  | 0 => .array .int
  | _ => .array .int
abbrev wsX10 : List Cond := u_ws RX1 TX1 2
theorem nmX1 : ∀ a, a < 2 → ∀ b, b < 2 → a ≠ b → (TX1 a).2.1 ≠ (TX1 b).2.1 := by decide +kernel
theorem tyX1_ok : ∀ k, k < 2 → parseFieldDescriptor (TX1 k).2.2.1 = some (tyX1 k) := by decide +kernel
abbrev cX1_init : ByteArray := prog_3_method_1_code
def yX1_init : MethodName := ⟨RX1, "<init>", "()V"⟩
abbrev cX1_lay : ByteArray := prog_3_method_2_code
def yX1_lay : MethodName := ⟨RX1, "lay", "(III)V"⟩
abbrev cX1_layAll : ByteArray := prog_3_method_3_code
def yX1_layAll : MethodName := ⟨RX1, "layAll", "(II)V"⟩
abbrev cX1_averageRate : ByteArray := prog_3_method_4_code
def yX1_averageRate : MethodName := ⟨RX1, "averageRate", "()I"⟩
def RX2 : String := "FundBook"
def TX2 : u_T := fun k => match k with
  | 0 => ("FundBook", "curve", "[I", true)
  | 1 => ("FundBook", "depositRate", "I", false)
  | 2 => ("FundBook", "optionRate", "I", false)
  | 3 => ("FundBook", "coreShare", "I", false)
  | 4 => ("FundBook", "now", "I", false)
  | 5 => ("FundBook", "loanRows", "[LFundBook$Loan;", true)
  | 6 => ("FundBook", "loanCount", "I", false)
  | 7 => ("FundBook", "balances", "[I", true)
  | 8 => ("FundBook", "replica", "LFundBook$Replica;", true)
  | 9 => ("FundBook", "branchMargins", "[[I", true)
  | 10 => ("FundBook", "productMargins", "[[I", true)
  | 11 => ("FundBook", "treasuryMargins", "[I", true)
  | _ => ("FundBook", "bankInterests", "[I", true)
def tyX2 : Nat → FieldType := fun k => match k with
  | 0 => .array .int
  | 1 => .int
  | 2 => .int
  | 3 => .int
  | 4 => .int
  | 5 => .array (.object "FundBook$Loan")
  | 6 => .int
  | 7 => .array .int
  | 8 => .object "FundBook$Replica"
  | 9 => .array (.array .int)
  | 10 => .array (.array .int)
  | 11 => .array .int
  | _ => .array .int
abbrev wsX20 : List Cond := u_ws RX2 TX2 13
theorem nmX2 : ∀ a, a < 13 → ∀ b, b < 13 → a ≠ b → (TX2 a).2.1 ≠ (TX2 b).2.1 := by decide +kernel
theorem tyX2_ok : ∀ k, k < 13 → parseFieldDescriptor (TX2 k).2.2.1 = some (tyX2 k) := by decide +kernel
abbrev cX2_init : ByteArray := prog_1_method_1_code
def yX2_init : MethodName := ⟨RX2, "<init>", "()V"⟩
abbrev cX2_setCurve : ByteArray := prog_1_method_2_code
def yX2_setCurve : MethodName := ⟨RX2, "setCurve", "(II)I"⟩
abbrev cX2_setRates : ByteArray := prog_1_method_3_code
def yX2_setRates : MethodName := ⟨RX2, "setRates", "(III)V"⟩
abbrev cX2_lend : ByteArray := prog_1_method_4_code
def yX2_lend : MethodName := ⟨RX2, "lend", "(IIIIIZ)I"⟩
abbrev cX2_repay : ByteArray := prog_1_method_5_code
def yX2_repay : MethodName := ⟨RX2, "repay", "(I)I"⟩
abbrev cX2_deposit : ByteArray := prog_1_method_6_code
def yX2_deposit : MethodName := ⟨RX2, "deposit", "(II)I"⟩
abbrev cX2_closeMonth : ByteArray := prog_1_method_7_code
def yX2_closeMonth : MethodName := ⟨RX2, "closeMonth", "()I"⟩
abbrev cX2_month : ByteArray := prog_1_method_8_code
def yX2_month : MethodName := ⟨RX2, "month", "()I"⟩
abbrev cX2_loans : ByteArray := prog_1_method_9_code
def yX2_loans : MethodName := ⟨RX2, "loans", "()I"⟩
abbrev cX2_left : ByteArray := prog_1_method_10_code
def yX2_left : MethodName := ⟨RX2, "left", "(I)I"⟩
abbrev cX2_bears : ByteArray := prog_1_method_11_code
def yX2_bears : MethodName := ⟨RX2, "bears", "(II)I"⟩
abbrev cX2_due : ByteArray := prog_1_method_12_code
def yX2_due : MethodName := ⟨RX2, "due", "(I)I"⟩
abbrev cX2_balance : ByteArray := prog_1_method_13_code
def yX2_balance : MethodName := ⟨RX2, "balance", "(I)I"⟩
abbrev cX2_tranche : ByteArray := prog_1_method_14_code
def yX2_tranche : MethodName := ⟨RX2, "tranche", "(I)I"⟩
abbrev cX2_replicaRate : ByteArray := prog_1_method_15_code
def yX2_replicaRate : MethodName := ⟨RX2, "replicaRate", "()I"⟩
abbrev cX2_margin : ByteArray := prog_1_method_16_code
def yX2_margin : MethodName := ⟨RX2, "margin", "(II)I"⟩
abbrev cX2_byProduct : ByteArray := prog_1_method_17_code
def yX2_byProduct : MethodName := ⟨RX2, "byProduct", "(II)I"⟩
abbrev cX2_treasury : ByteArray := prog_1_method_18_code
def yX2_treasury : MethodName := ⟨RX2, "treasury", "(I)I"⟩
abbrev cX2_interest : ByteArray := prog_1_method_19_code
def yX2_interest : MethodName := ⟨RX2, "interest", "(I)I"⟩
abbrev cX2_hasEnded : ByteArray := prog_1_method_20_code
def yX2_hasEnded : MethodName := ⟨RX2, "hasEnded", "(I)Z"⟩
abbrev cX2_findLoan : ByteArray := prog_1_method_21_code
def yX2_findLoan : MethodName := ⟨RX2, "findLoan", "(I)LFundBook$Loan;"⟩
abbrev cX2_cutIntoParts : ByteArray := prog_1_method_22_code
def yX2_cutIntoParts : MethodName := ⟨RX2, "cutIntoParts", "(III)[I"⟩
abbrev cX2_forOneMonth : ByteArray := prog_1_method_23_code
def yX2_forOneMonth : MethodName := ⟨RX2, "forOneMonth", "(J)I"⟩
abbrev cX2_coreOf : ByteArray := prog_1_method_24_code
def yX2_coreOf : MethodName := ⟨RX2, "coreOf", "(J)I"⟩
abbrev cX2_trancheAmount : ByteArray := prog_1_method_25_code
def yX2_trancheAmount : MethodName := ⟨RX2, "trancheAmount", "()I"⟩
abbrev cX2_reckonLoans : ByteArray := prog_1_method_26_code
def yX2_reckonLoans : MethodName := ⟨RX2, "reckonLoans", "()V"⟩
abbrev cX2_loanMarginsOfBranch : ByteArray := prog_1_method_27_code
def yX2_loanMarginsOfBranch : MethodName := ⟨RX2, "loanMarginsOfBranch", "(I)I"⟩
abbrev cX2_loanMarginsOfProduct : ByteArray := prog_1_method_28_code
def yX2_loanMarginsOfProduct : MethodName := ⟨RX2, "loanMarginsOfProduct", "(I)I"⟩
abbrev cX2_reckonDeposits : ByteArray := prog_1_method_29_code
def yX2_reckonDeposits : MethodName := ⟨RX2, "reckonDeposits", "()V"⟩
abbrev cX2_paidForDeposits : ByteArray := prog_1_method_30_code
def yX2_paidForDeposits : MethodName := ⟨RX2, "paidForDeposits", "(II)I"⟩
abbrev cX2_payParts : ByteArray := prog_1_method_31_code
def yX2_payParts : MethodName := ⟨RX2, "payParts", "()V"⟩
def RX3 : String := "FundBookModel"
def TX3 : u_T := fun k => match k with
  | 0 => ("FundBookModel", "thrown", "I", false)
  | 1 => ("FundBookModel", "now", "I", false)
  | 2 => ("FundBookModel", "curve", "[I", true)
  | 3 => ("FundBookModel", "depositRate", "I", false)
  | 4 => ("FundBookModel", "optionRate", "I", false)
  | 5 => ("FundBookModel", "share", "I", false)
  | 6 => ("FundBookModel", "loans", "I", false)
  | 7 => ("FundBookModel", "branch", "[I", true)
  | 8 => ("FundBookModel", "product", "[I", true)
  | 9 => ("FundBookModel", "customers", "[I", true)
  | 10 => ("FundBookModel", "option", "[I", true)
  | 11 => ("FundBookModel", "hasOption", "[Z", true)
  | 12 => ("FundBookModel", "born", "[I", true)
  | 13 => ("FundBookModel", "part", "[I", true)
  | 14 => ("FundBookModel", "funded", "[I", true)
  | 15 => ("FundBookModel", "balance", "[I", true)
  | 16 => ("FundBookModel", "tranche", "[I", true)
  | 17 => ("FundBookModel", "laidAt", "[I", true)
  | 18 => ("FundBookModel", "margins", "[I", true)
  | 19 => ("FundBookModel", "products", "[I", true)
  | 20 => ("FundBookModel", "treasuries", "[I", true)
  | _ => ("FundBookModel", "interests", "[I", true)
def tyX3 : Nat → FieldType := fun k => match k with
  | 0 => .int
  | 1 => .int
  | 2 => .array .int
  | 3 => .int
  | 4 => .int
  | 5 => .int
  | 6 => .int
  | 7 => .array .int
  | 8 => .array .int
  | 9 => .array .int
  | 10 => .array .int
  | 11 => .array .boolean
  | 12 => .array .int
  | 13 => .array .int
  | 14 => .array .int
  | 15 => .array .int
  | 16 => .array .int
  | 17 => .array .int
  | 18 => .array .int
  | 19 => .array .int
  | 20 => .array .int
  | _ => .array .int
abbrev wsX30 : List Cond := u_ws RX3 TX3 22
theorem nmX3 : ∀ a, a < 22 → ∀ b, b < 22 → a ≠ b → (TX3 a).2.1 ≠ (TX3 b).2.1 := by decide +kernel
theorem tyX3_ok : ∀ k, k < 22 → parseFieldDescriptor (TX3 k).2.2.1 = some (tyX3 k) := by decide +kernel
abbrev cX3_init : ByteArray := prog_5_method_1_code
def yX3_init : MethodName := ⟨RX3, "<init>", "()V"⟩
abbrev cX3_thrown : ByteArray := prog_5_method_2_code
def yX3_thrown : MethodName := ⟨RX3, "thrown", "()I"⟩
abbrev cX3_fails : ByteArray := prog_5_method_3_code
def yX3_fails : MethodName := ⟨RX3, "fails", "(I)I"⟩
abbrev cX3_in : ByteArray := prog_5_method_4_code
def yX3_in : MethodName := ⟨RX3, "in", "(III)Z"⟩
abbrev cX3_isLoan : ByteArray := prog_5_method_5_code
def yX3_isLoan : MethodName := ⟨RX3, "isLoan", "(I)Z"⟩
abbrev cX3_isBranch : ByteArray := prog_5_method_6_code
def yX3_isBranch : MethodName := ⟨RX3, "isBranch", "(I)Z"⟩
abbrev cX3_isEnded : ByteArray := prog_5_method_7_code
def yX3_isEnded : MethodName := ⟨RX3, "isEnded", "(I)Z"⟩
abbrev cX3_setCurve : ByteArray := prog_5_method_8_code
def yX3_setCurve : MethodName := ⟨RX3, "setCurve", "(II)I"⟩
abbrev cX3_setRates : ByteArray := prog_5_method_9_code
def yX3_setRates : MethodName := ⟨RX3, "setRates", "(III)V"⟩
abbrev cX3_leftOf : ByteArray := prog_5_method_10_code
def yX3_leftOf : MethodName := ⟨RX3, "leftOf", "(I)I"⟩
abbrev cX3_bear : ByteArray := prog_5_method_11_code
def yX3_bear : MethodName := ⟨RX3, "bear", "(II)I"⟩
abbrev cX3_lend : ByteArray := prog_5_method_12_code
def yX3_lend : MethodName := ⟨RX3, "lend", "(IIIIIZ)I"⟩
abbrev cX3_repay : ByteArray := prog_5_method_13_code
def yX3_repay : MethodName := ⟨RX3, "repay", "(I)I"⟩
abbrev cX3_core : ByteArray := prog_5_method_14_code
def yX3_core : MethodName := ⟨RX3, "core", "()I"⟩
abbrev cX3_lays : ByteArray := prog_5_method_15_code
def yX3_lays : MethodName := ⟨RX3, "lays", "(I)V"⟩
abbrev cX3_replica : ByteArray := prog_5_method_16_code
def yX3_replica : MethodName := ⟨RX3, "replica", "()I"⟩
abbrev cX3_deposit : ByteArray := prog_5_method_17_code
def yX3_deposit : MethodName := ⟨RX3, "deposit", "(II)I"⟩
abbrev cX3_isPaid : ByteArray := prog_5_method_18_code
def yX3_isPaid : MethodName := ⟨RX3, "isPaid", "(I)I"⟩
abbrev cX3_pays : ByteArray := prog_5_method_19_code
def yX3_pays : MethodName := ⟨RX3, "pays", "(I)I"⟩
abbrev cX3_closeMonth : ByteArray := prog_5_method_20_code
def yX3_closeMonth : MethodName := ⟨RX3, "closeMonth", "()I"⟩
abbrev cX3_month : ByteArray := prog_5_method_21_code
def yX3_month : MethodName := ⟨RX3, "month", "()I"⟩
abbrev cX3_loans : ByteArray := prog_5_method_22_code
def yX3_loans : MethodName := ⟨RX3, "loans", "()I"⟩
abbrev cX3_left : ByteArray := prog_5_method_23_code
def yX3_left : MethodName := ⟨RX3, "left", "(I)I"⟩
abbrev cX3_bears : ByteArray := prog_5_method_24_code
def yX3_bears : MethodName := ⟨RX3, "bears", "(II)I"⟩
abbrev cX3_due : ByteArray := prog_5_method_25_code
def yX3_due : MethodName := ⟨RX3, "due", "(I)I"⟩
abbrev cX3_balance : ByteArray := prog_5_method_26_code
def yX3_balance : MethodName := ⟨RX3, "balance", "(I)I"⟩
abbrev cX3_tranche : ByteArray := prog_5_method_27_code
def yX3_tranche : MethodName := ⟨RX3, "tranche", "(I)I"⟩
abbrev cX3_replicaRate : ByteArray := prog_5_method_28_code
def yX3_replicaRate : MethodName := ⟨RX3, "replicaRate", "()I"⟩
abbrev cX3_margin : ByteArray := prog_5_method_29_code
def yX3_margin : MethodName := ⟨RX3, "margin", "(II)I"⟩
abbrev cX3_byProduct : ByteArray := prog_5_method_30_code
def yX3_byProduct : MethodName := ⟨RX3, "byProduct", "(II)I"⟩
abbrev cX3_treasury : ByteArray := prog_5_method_31_code
def yX3_treasury : MethodName := ⟨RX3, "treasury", "(I)I"⟩
abbrev cX3_interest : ByteArray := prog_5_method_32_code
def yX3_interest : MethodName := ⟨RX3, "interest", "(I)I"⟩
def RJx8e188 : String := "java/lang/Cloneable"
def TJx8e188 : u_T := fun k => match k with
  | _ => ("", "", "", false)
def tyJx8e188 : Nat → FieldType := fun k => match k with
  | _ => .int
abbrev wsJx8e1880 : List Cond := u_ws RJx8e188 TJx8e188 0
theorem nmJx8e188 : ∀ a, a < 0 → ∀ b, b < 0 → a ≠ b → (TJx8e188 a).2.1 ≠ (TJx8e188 b).2.1 := by decide +kernel
theorem tyJx8e188_ok : ∀ k, k < 0 → parseFieldDescriptor (TJx8e188 k).2.2.1 = some (tyJx8e188 k) := by decide +kernel
def RJ0 : String := "java/lang/String"
def TJ0 : u_T := fun k => match k with
  | _ => ("", "", "", false)
def tyJ0 : Nat → FieldType := fun k => match k with
  | _ => .int
abbrev wsJ00 : List Cond := u_ws RJ0 TJ0 0
theorem nmJ0 : ∀ a, a < 0 → ∀ b, b < 0 → a ≠ b → (TJ0 a).2.1 ≠ (TJ0 b).2.1 := by decide +kernel
theorem tyJ0_ok : ∀ k, k < 0 → parseFieldDescriptor (TJ0 k).2.2.1 = some (tyJ0 k) := by decide +kernel
def RL : String := "FundBookLaw"
abbrev cL_setCurve : ByteArray := method_3_code
def yL_setCurve : MethodName := ⟨RL, "setCurve", "(LFundBook;II[J)I"⟩
abbrev cL_setRates : ByteArray := method_4_code
def yL_setRates : MethodName := ⟨RL, "setRates", "(LFundBook;III)I"⟩
abbrev cL_lend : ByteArray := method_5_code
def yL_lend : MethodName := ⟨RL, "lend", "(LFundBook;IIIIIZ[J)I"⟩
abbrev cL_repay : ByteArray := method_6_code
def yL_repay : MethodName := ⟨RL, "repay", "(LFundBook;I[J)I"⟩
abbrev cL_deposit : ByteArray := method_7_code
def yL_deposit : MethodName := ⟨RL, "deposit", "(LFundBook;II[J)I"⟩
abbrev cL_closeMonth : ByteArray := method_8_code
def yL_closeMonth : MethodName := ⟨RL, "closeMonth", "(LFundBook;[J)I"⟩
abbrev cL_left : ByteArray := method_9_code
def yL_left : MethodName := ⟨RL, "left", "(LFundBook;I[J)I"⟩
abbrev cL_bears : ByteArray := method_10_code
def yL_bears : MethodName := ⟨RL, "bears", "(LFundBook;II[J)I"⟩
abbrev cL_due : ByteArray := method_11_code
def yL_due : MethodName := ⟨RL, "due", "(LFundBook;I[J)I"⟩
abbrev cL_balance : ByteArray := method_12_code
def yL_balance : MethodName := ⟨RL, "balance", "(LFundBook;I[J)I"⟩
abbrev cL_tranche : ByteArray := method_13_code
def yL_tranche : MethodName := ⟨RL, "tranche", "(LFundBook;I[J)I"⟩
abbrev cL_margin : ByteArray := method_14_code
def yL_margin : MethodName := ⟨RL, "margin", "(LFundBook;II[J)I"⟩
abbrev cL_byProduct : ByteArray := method_15_code
def yL_byProduct : MethodName := ⟨RL, "byProduct", "(LFundBook;II[J)I"⟩
abbrev cL_treasury : ByteArray := method_16_code
def yL_treasury : MethodName := ⟨RL, "treasury", "(LFundBook;I[J)I"⟩
abbrev cL_interest : ByteArray := method_17_code
def yL_interest : MethodName := ⟨RL, "interest", "(LFundBook;I[J)I"⟩
abbrev cL_law : ByteArray := code
def yL_law : MethodName := ⟨RL, "law", "([I)Z"⟩
def wsX0_init : List Cond := .code yX0_init cX0_init 8 none :: ([.methodLink RX0 3 objectInit, .instanceMethod objectInit, .code objectInit ⟨#[0xb1]⟩ 1 none, .fieldLink RX0 9 "FundBook$Loan" "branch" "I", .fieldLink RX0 15 "FundBook$Loan" "product" "I", .fieldLink RX0 18 "FundBook$Loan" "rate" "I", .fieldLink RX0 21 "FundBook$Loan" "hasOption" "Z", .fieldLink RX0 25 "FundBook$Loan" "optionRate" "I", .fieldLink RX0 28 "FundBook$Loan" "parts" "[I", .fieldLink RX0 32 "FundBook$Loan" "fundingRates" "[I", .fieldLink RX0 35 "FundBook$Loan" "paidParts" "I"] ++ wsX00)
def wsX0_unpaid : List Cond := .code yX0_unpaid cX0_unpaid 3 (some .int) :: ([.fieldLink RX0 35 "FundBook$Loan" "paidParts" "I", .fieldLink RX0 28 "FundBook$Loan" "parts" "[I"] ++ wsX00)
def wsX0_partAhead : List Cond := .code yX0_partAhead cX0_partAhead 3 (some .int) :: ([.fieldLink RX0 35 "FundBook$Loan" "paidParts" "I", .fieldLink RX0 28 "FundBook$Loan" "parts" "[I"] ++ wsX00)
def wsX2_forOneMonth : List Cond := .code yX2_forOneMonth cX2_forOneMonth 2 (some .int) :: ([.constantLong RX2 187 (120000)])
def wsX0_customerInterest : List Cond := .code yX0_customerInterest cX0_customerInterest 1 (some .int) :: ([.fieldLink RX0 18 "FundBook$Loan" "rate" "I", .methodLink RX0 38 yX0_unpaid, .instanceMethod yX0_unpaid, .selects RX0 yX0_unpaid yX0_unpaid, .initialized RX0, .code yX0_unpaid cX0_unpaid 3 (some .int), .fieldLink RX0 35 "FundBook$Loan" "paidParts" "I", .fieldLink RX0 28 "FundBook$Loan" "parts" "[I", .static yX2_forOneMonth, .initialized RX2, .code yX2_forOneMonth cX2_forOneMonth 2 (some .int), .constantLong RX2 187 (120000)] ++ wsX00)
def wsX0_funding : List Cond := .code yX0_funding cX0_funding 4 (some .int) :: ([.fieldLink RX0 35 "FundBook$Loan" "paidParts" "I", .fieldLink RX0 28 "FundBook$Loan" "parts" "[I", .fieldLink RX0 32 "FundBook$Loan" "fundingRates" "[I", .static yX2_forOneMonth, .initialized RX2, .code yX2_forOneMonth cX2_forOneMonth 2 (some .int), .constantLong RX2 187 (120000)] ++ wsX00)
def wsX0_optionCharge : List Cond := .code yX0_optionCharge cX0_optionCharge 1 (some .int) :: ([.fieldLink RX0 25 "FundBook$Loan" "optionRate" "I", .methodLink RX0 38 yX0_unpaid, .instanceMethod yX0_unpaid, .selects RX0 yX0_unpaid yX0_unpaid, .initialized RX0, .code yX0_unpaid cX0_unpaid 3 (some .int), .fieldLink RX0 35 "FundBook$Loan" "paidParts" "I", .fieldLink RX0 28 "FundBook$Loan" "parts" "[I", .static yX2_forOneMonth, .initialized RX2, .code yX2_forOneMonth cX2_forOneMonth 2 (some .int), .constantLong RX2 187 (120000)] ++ wsX00)
def wsX0_ownMargin_r1 : List Cond := [Cond.methodLink RX0 46 yX0_customerInterest, Cond.instanceMethod yX0_customerInterest, Cond.selects RX0 yX0_customerInterest yX0_customerInterest, Cond.initialized RX0, Cond.code yX0_customerInterest cX0_customerInterest 1 (some .int), Cond.fieldLink RX0 18 "FundBook$Loan" "rate" "I", Cond.methodLink RX0 38 yX0_unpaid, Cond.instanceMethod yX0_unpaid, Cond.selects RX0 yX0_unpaid yX0_unpaid, Cond.code yX0_unpaid cX0_unpaid 3 (some .int), Cond.fieldLink RX0 35 "FundBook$Loan" "paidParts" "I", Cond.fieldLink RX0 28 "FundBook$Loan" "parts" "[I", Cond.static yX2_forOneMonth, Cond.initialized RX2, Cond.code yX2_forOneMonth cX2_forOneMonth 2 (some .int), Cond.constantLong RX2 187 (120000), Cond.methodLink RX0 49 yX0_funding, Cond.instanceMethod yX0_funding, Cond.selects RX0 yX0_funding yX0_funding, Cond.code yX0_funding cX0_funding 4 (some .int), Cond.fieldLink RX0 32 "FundBook$Loan" "fundingRates" "[I", Cond.methodLink RX0 52 yX0_optionCharge, Cond.instanceMethod yX0_optionCharge, Cond.selects RX0 yX0_optionCharge yX0_optionCharge]
def wsX0_ownMargin_r2 : List Cond := [Cond.code yX0_optionCharge cX0_optionCharge 1 (some .int), Cond.fieldLink RX0 25 "FundBook$Loan" "optionRate" "I"]
def wsX0_ownMargin : List Cond := .code yX0_ownMargin cX0_ownMargin 1 (some .int) :: ((wsX0_ownMargin_r1 ++ wsX0_ownMargin_r2) ++ wsX00)
def wsX0_payPart : List Cond := .code yX0_payPart cX0_payPart 1 none :: ([.fieldLink RX0 35 "FundBook$Loan" "paidParts" "I"] ++ wsX00)
def wsX0_settle : List Cond := .code yX0_settle cX0_settle 1 none :: ([.fieldLink RX0 35 "FundBook$Loan" "paidParts" "I"] ++ wsX00)
def wsX1_init : List Cond := .code yX1_init cX1_init 1 none :: ([.methodLink RX1 3 objectInit, .instanceMethod objectInit, .code objectInit ⟨#[0xb1]⟩ 1 none, .arrayClass .int, .fieldLink RX1 9 "FundBook$Replica" "amounts" "[I", .fieldLink RX1 15 "FundBook$Replica" "rates" "[I"] ++ wsX10)
def wsX1_lay : List Cond := .code yX1_lay cX1_lay 4 none :: ([.fieldLink RX1 9 "FundBook$Replica" "amounts" "[I", .fieldLink RX1 15 "FundBook$Replica" "rates" "[I"] ++ wsX10)
def wsX1_layAll : List Cond := .code yX1_layAll cX1_layAll 4 none :: ([.methodLink RX1 18 yX1_lay, .instanceMethod yX1_lay, .selects RX1 yX1_lay yX1_lay, .initialized RX1, .code yX1_lay cX1_lay 4 none, .fieldLink RX1 9 "FundBook$Replica" "amounts" "[I", .fieldLink RX1 15 "FundBook$Replica" "rates" "[I"] ++ wsX10)
def wsX1_averageRate : List Cond := .code yX1_averageRate cX1_averageRate 6 (some .int) :: ([.fieldLink RX1 9 "FundBook$Replica" "amounts" "[I", .fieldLink RX1 15 "FundBook$Replica" "rates" "[I"] ++ wsX10)
def wsX2_init_r1 : List Cond := [Cond.methodLink RX2 1 objectInit, Cond.instanceMethod objectInit, Cond.code objectInit ⟨#[0xb1]⟩ 1 none, Cond.arrayClass .int, Cond.fieldLink RX2 9 "FundBook" "curve" "[I", Cond.fieldLink RX2 13 "FundBook" "depositRate" "I", Cond.fieldLink RX2 17 "FundBook" "optionRate" "I", Cond.fieldLink RX2 20 "FundBook" "coreShare" "I", Cond.fieldLink RX2 23 "FundBook" "now" "I", Cond.classLink RX2 26 RX0, Cond.fieldLink RX2 28 "FundBook" "loanRows" "[LFundBook$Loan;", Cond.fieldLink RX2 32 "FundBook" "loanCount" "I", Cond.fieldLink RX2 35 "FundBook" "balances" "[I", Cond.classLink RX2 38 RX1, Cond.instantiable RX1 2, Cond.initialized RX1, Cond.fieldLink RX2 41 "FundBook" "replica" "LFundBook$Replica;", Cond.classLink RX2 45 "[[I", Cond.fieldLink RX2 47 "FundBook" "branchMargins" "[[I", Cond.fieldLink RX2 50 "FundBook" "productMargins" "[[I", Cond.fieldLink RX2 53 "FundBook" "treasuryMargins" "[I", Cond.fieldLink RX2 56 "FundBook" "bankInterests" "[I", Cond.instanceMethod yX1_init, Cond.code yX1_init cX1_init 1 none]
def wsX2_init_r2 : List Cond := [Cond.methodLink RX1 3 objectInit, Cond.fieldLink RX1 9 "FundBook$Replica" "amounts" "[I", Cond.fieldLink RX1 15 "FundBook$Replica" "rates" "[I"]
def wsX2_init : List Cond := .code yX2_init cX2_init 1 none :: ((wsX2_init_r1 ++ wsX2_init_r2) ++ wsX20 ++ wsX10)
def wsX2_setCurve : List Cond := .code yX2_setCurve cX2_setCurve 4 (some .int) :: ([.classLink RX2 59 "java/lang/IndexOutOfBoundsException", .initialized "java/lang/IndexOutOfBoundsException", .classLink RX2 66 "java/lang/IllegalArgumentException", .initialized "java/lang/IllegalArgumentException", .fieldLink RX2 9 "FundBook" "curve" "[I"] ++ wsX20 ++ (vx_atS RX2 63 "java/lang/IndexOutOfBoundsException" ["java/lang/RuntimeException", "java/lang/Exception"]).filter goodWord ++ (vx_atS RX2 70 "java/lang/IllegalArgumentException" ["java/lang/RuntimeException", "java/lang/Exception"]).filter goodWord)
def wsX2_setRates : List Cond := .code yX2_setRates cX2_setRates 4 none :: ([.classLink RX2 66 "java/lang/IllegalArgumentException", .initialized "java/lang/IllegalArgumentException", .fieldLink RX2 13 "FundBook" "depositRate" "I", .fieldLink RX2 17 "FundBook" "optionRate" "I", .fieldLink RX2 20 "FundBook" "coreShare" "I"] ++ wsX20 ++ (vx_atS RX2 70 "java/lang/IllegalArgumentException" ["java/lang/RuntimeException", "java/lang/Exception"]).filter goodWord)
def wsX2_cutIntoParts : List Cond := .code yX2_cutIntoParts cX2_cutIntoParts 5 (some (.array .int)) :: ([.arrayClass .int])
def wsX2_lend_r1 : List Cond := [Cond.classLink RX2 59 "java/lang/IndexOutOfBoundsException", Cond.initialized "java/lang/IndexOutOfBoundsException", Cond.classLink RX2 66 "java/lang/IllegalArgumentException", Cond.initialized "java/lang/IllegalArgumentException", Cond.classLink RX2 84 "java/lang/IllegalStateException", Cond.initialized "java/lang/IllegalStateException", Cond.constant RX2 79 (10000000), Cond.fieldLink RX2 32 "FundBook" "loanCount" "I", Cond.fieldLink RX2 17 "FundBook" "optionRate" "I", Cond.fieldLink RX2 28 "FundBook" "loanRows" "[LFundBook$Loan;", Cond.classLink RX2 26 RX0, Cond.instantiable RX0 8, Cond.initialized RX0, Cond.fieldLink RX2 9 "FundBook" "curve" "[I", Cond.methodLink RX2 93 ⟨"[I", "clone", "()Ljava/lang/Object;"⟩, Cond.sameMethod "[I" "java/lang/Object" "clone" "()Ljava/lang/Object;", Cond.native ⟨"java/lang/Object", "clone", "()Ljava/lang/Object;"⟩, Cond.instanceMethod ⟨"java/lang/Object", "clone", "()Ljava/lang/Object;"⟩, Cond.selects "[I" ⟨"[I", "clone", "()Ljava/lang/Object;"⟩ ⟨"java/lang/Object", "clone", "()Ljava/lang/Object;"⟩, Cond.classLink RX2 94 "[I", Cond.methodLink RX2 89 yX2_cutIntoParts, Cond.static yX2_cutIntoParts, Cond.initialized RX2, Cond.code yX2_cutIntoParts cX2_cutIntoParts 5 (some (.array .int))]
def wsX2_lend_r2 : List Cond := [Cond.arrayClass .int, Cond.instanceMethod yX0_init, Cond.code yX0_init cX0_init 8 none, Cond.methodLink RX0 3 objectInit, Cond.instanceMethod objectInit, Cond.code objectInit ⟨#[0xb1]⟩ 1 none, Cond.fieldLink RX0 9 "FundBook$Loan" "branch" "I", Cond.fieldLink RX0 15 "FundBook$Loan" "product" "I", Cond.fieldLink RX0 18 "FundBook$Loan" "rate" "I", Cond.fieldLink RX0 21 "FundBook$Loan" "hasOption" "Z", Cond.fieldLink RX0 25 "FundBook$Loan" "optionRate" "I", Cond.fieldLink RX0 28 "FundBook$Loan" "parts" "[I", Cond.fieldLink RX0 32 "FundBook$Loan" "fundingRates" "[I", Cond.fieldLink RX0 35 "FundBook$Loan" "paidParts" "I"]
def wsX2_lend : List Cond := .code yX2_lend cX2_lend 10 (some .int) :: ((wsX2_lend_r1 ++ wsX2_lend_r2) ++ wsX20 ++ wsX00 ++ (vx_atS RX2 63 "java/lang/IndexOutOfBoundsException" ["java/lang/RuntimeException", "java/lang/Exception"]).filter goodWord ++ (vx_atS RX2 70 "java/lang/IllegalArgumentException" ["java/lang/RuntimeException", "java/lang/Exception"]).filter goodWord ++ (vx_atS RX2 88 "java/lang/IllegalStateException" ["java/lang/RuntimeException", "java/lang/Exception"]).filter goodWord)
def wsX2_findLoan : List Cond := .code yX2_findLoan cX2_findLoan 2 (some (.object "FundBook$Loan")) :: ([.fieldLink RX2 28 "FundBook" "loanRows" "[LFundBook$Loan;"] ++ wsX20)
def wsX2_repay : List Cond := .code yX2_repay cX2_repay 4 (some .int) :: ([.classLink RX2 59 "java/lang/IndexOutOfBoundsException", .initialized "java/lang/IndexOutOfBoundsException", .classLink RX2 84 "java/lang/IllegalStateException", .initialized "java/lang/IllegalStateException", .methodLink RX2 101 yX2_findLoan, .instanceMethod yX2_findLoan, .selects RX2 yX2_findLoan yX2_findLoan, .initialized RX2, .code yX2_findLoan cX2_findLoan 2 (some (.object "FundBook$Loan")), .fieldLink RX2 28 "FundBook" "loanRows" "[LFundBook$Loan;", .instanceMethod yX0_unpaid, .initialized RX0, .selects RX0 yX0_unpaid yX0_unpaid, .code yX0_unpaid cX0_unpaid 3 (some .int), .fieldLink RX0 35 "FundBook$Loan" "paidParts" "I", .fieldLink RX0 28 "FundBook$Loan" "parts" "[I", .instanceMethod yX0_settle, .selects RX0 yX0_settle yX0_settle, .code yX0_settle cX0_settle 1 none] ++ wsX00 ++ wsX20 ++ (vx_atS RX2 63 "java/lang/IndexOutOfBoundsException" ["java/lang/RuntimeException", "java/lang/Exception"]).filter goodWord ++ (vx_atS RX2 88 "java/lang/IllegalStateException" ["java/lang/RuntimeException", "java/lang/Exception"]).filter goodWord)
def wsX2_coreOf : List Cond := .code yX2_coreOf cX2_coreOf 3 (some .int) :: ([.fieldLink RX2 20 "FundBook" "coreShare" "I", .constantLong RX2 189 (100)] ++ wsX20)
def wsX2_trancheAmount : List Cond := .code yX2_trancheAmount cX2_trancheAmount 7 (some .int) :: ([.fieldLink RX2 35 "FundBook" "balances" "[I", .methodLink RX2 191 yX2_coreOf, .instanceMethod yX2_coreOf, .selects RX2 yX2_coreOf yX2_coreOf, .initialized RX2, .code yX2_coreOf cX2_coreOf 3 (some .int), .fieldLink RX2 20 "FundBook" "coreShare" "I", .constantLong RX2 189 (100)] ++ wsX20)
def wsX2_deposit_r1 : List Cond := [Cond.classLink RX2 59 "java/lang/IndexOutOfBoundsException", Cond.initialized "java/lang/IndexOutOfBoundsException", Cond.classLink RX2 66 "java/lang/IllegalArgumentException", Cond.initialized "java/lang/IllegalArgumentException", Cond.classLink RX2 84 "java/lang/IllegalStateException", Cond.initialized "java/lang/IllegalStateException", Cond.constant RX2 122 (-10000000), Cond.constant RX2 79 (10000000), Cond.fieldLink RX2 35 "FundBook" "balances" "[I", Cond.fieldLink RX2 23 "FundBook" "now" "I", Cond.fieldLink RX2 41 "FundBook" "replica" "LFundBook$Replica;", Cond.fieldLink RX2 9 "FundBook" "curve" "[I", Cond.methodLink RX2 127 yX2_trancheAmount, Cond.instanceMethod yX2_trancheAmount, Cond.selects RX2 yX2_trancheAmount yX2_trancheAmount, Cond.initialized RX2, Cond.code yX2_trancheAmount cX2_trancheAmount 7 (some .int), Cond.methodLink RX2 191 yX2_coreOf, Cond.instanceMethod yX2_coreOf, Cond.selects RX2 yX2_coreOf yX2_coreOf, Cond.code yX2_coreOf cX2_coreOf 3 (some .int), Cond.fieldLink RX2 20 "FundBook" "coreShare" "I", Cond.constantLong RX2 189 (100), Cond.instanceMethod yX1_layAll]
def wsX2_deposit_r2 : List Cond := [Cond.initialized RX1, Cond.selects RX1 yX1_layAll yX1_layAll, Cond.code yX1_layAll cX1_layAll 4 none, Cond.methodLink RX1 18 yX1_lay, Cond.instanceMethod yX1_lay, Cond.selects RX1 yX1_lay yX1_lay, Cond.code yX1_lay cX1_lay 4 none, Cond.fieldLink RX1 9 "FundBook$Replica" "amounts" "[I", Cond.fieldLink RX1 15 "FundBook$Replica" "rates" "[I"]
def wsX2_deposit : List Cond := .code yX2_deposit cX2_deposit 4 (some .int) :: ((wsX2_deposit_r1 ++ wsX2_deposit_r2) ++ wsX20 ++ wsX10 ++ (vx_atS RX2 63 "java/lang/IndexOutOfBoundsException" ["java/lang/RuntimeException", "java/lang/Exception"]).filter goodWord ++ (vx_atS RX2 70 "java/lang/IllegalArgumentException" ["java/lang/RuntimeException", "java/lang/Exception"]).filter goodWord ++ (vx_atS RX2 88 "java/lang/IllegalStateException" ["java/lang/RuntimeException", "java/lang/Exception"]).filter goodWord)
def wsX2_loanMarginsOfBranch_r1 : List Cond := [Cond.fieldLink RX2 28 "FundBook" "loanRows" "[LFundBook$Loan;", Cond.instanceMethod yX0_ownMargin, Cond.initialized RX0, Cond.selects RX0 yX0_ownMargin yX0_ownMargin, Cond.code yX0_ownMargin cX0_ownMargin 1 (some .int), Cond.methodLink RX0 46 yX0_customerInterest, Cond.instanceMethod yX0_customerInterest, Cond.selects RX0 yX0_customerInterest yX0_customerInterest, Cond.code yX0_customerInterest cX0_customerInterest 1 (some .int), Cond.fieldLink RX0 18 "FundBook$Loan" "rate" "I", Cond.methodLink RX0 38 yX0_unpaid, Cond.instanceMethod yX0_unpaid, Cond.selects RX0 yX0_unpaid yX0_unpaid, Cond.code yX0_unpaid cX0_unpaid 3 (some .int), Cond.fieldLink RX0 35 "FundBook$Loan" "paidParts" "I", Cond.fieldLink RX0 28 "FundBook$Loan" "parts" "[I", Cond.static yX2_forOneMonth, Cond.initialized RX2, Cond.code yX2_forOneMonth cX2_forOneMonth 2 (some .int), Cond.constantLong RX2 187 (120000), Cond.methodLink RX0 49 yX0_funding, Cond.instanceMethod yX0_funding, Cond.selects RX0 yX0_funding yX0_funding, Cond.code yX0_funding cX0_funding 4 (some .int)]
def wsX2_loanMarginsOfBranch_r2 : List Cond := [Cond.fieldLink RX0 32 "FundBook$Loan" "fundingRates" "[I", Cond.methodLink RX0 52 yX0_optionCharge, Cond.instanceMethod yX0_optionCharge, Cond.selects RX0 yX0_optionCharge yX0_optionCharge, Cond.code yX0_optionCharge cX0_optionCharge 1 (some .int), Cond.fieldLink RX0 25 "FundBook$Loan" "optionRate" "I"]
def wsX2_loanMarginsOfBranch : List Cond := .code yX2_loanMarginsOfBranch cX2_loanMarginsOfBranch 7 (some .int) :: ((wsX2_loanMarginsOfBranch_r1 ++ wsX2_loanMarginsOfBranch_r2) ++ wsX20 ++ wsX00)
def wsX2_loanMarginsOfProduct_r1 : List Cond := [Cond.fieldLink RX2 28 "FundBook" "loanRows" "[LFundBook$Loan;", Cond.instanceMethod yX0_ownMargin, Cond.initialized RX0, Cond.selects RX0 yX0_ownMargin yX0_ownMargin, Cond.code yX0_ownMargin cX0_ownMargin 1 (some .int), Cond.methodLink RX0 46 yX0_customerInterest, Cond.instanceMethod yX0_customerInterest, Cond.selects RX0 yX0_customerInterest yX0_customerInterest, Cond.code yX0_customerInterest cX0_customerInterest 1 (some .int), Cond.fieldLink RX0 18 "FundBook$Loan" "rate" "I", Cond.methodLink RX0 38 yX0_unpaid, Cond.instanceMethod yX0_unpaid, Cond.selects RX0 yX0_unpaid yX0_unpaid, Cond.code yX0_unpaid cX0_unpaid 3 (some .int), Cond.fieldLink RX0 35 "FundBook$Loan" "paidParts" "I", Cond.fieldLink RX0 28 "FundBook$Loan" "parts" "[I", Cond.static yX2_forOneMonth, Cond.initialized RX2, Cond.code yX2_forOneMonth cX2_forOneMonth 2 (some .int), Cond.constantLong RX2 187 (120000), Cond.methodLink RX0 49 yX0_funding, Cond.instanceMethod yX0_funding, Cond.selects RX0 yX0_funding yX0_funding, Cond.code yX0_funding cX0_funding 4 (some .int)]
def wsX2_loanMarginsOfProduct_r2 : List Cond := [Cond.fieldLink RX0 32 "FundBook$Loan" "fundingRates" "[I", Cond.methodLink RX0 52 yX0_optionCharge, Cond.instanceMethod yX0_optionCharge, Cond.selects RX0 yX0_optionCharge yX0_optionCharge, Cond.code yX0_optionCharge cX0_optionCharge 1 (some .int), Cond.fieldLink RX0 25 "FundBook$Loan" "optionRate" "I"]
def wsX2_loanMarginsOfProduct : List Cond := .code yX2_loanMarginsOfProduct cX2_loanMarginsOfProduct 7 (some .int) :: ((wsX2_loanMarginsOfProduct_r1 ++ wsX2_loanMarginsOfProduct_r2) ++ wsX20 ++ wsX00)
def wsX2_reckonLoans_r1 : List Cond := [Cond.fieldLink RX2 47 "FundBook" "branchMargins" "[[I", Cond.fieldLink RX2 23 "FundBook" "now" "I", Cond.fieldLink RX2 50 "FundBook" "productMargins" "[[I", Cond.fieldLink RX2 28 "FundBook" "loanRows" "[LFundBook$Loan;", Cond.fieldLink RX2 53 "FundBook" "treasuryMargins" "[I", Cond.fieldLink RX2 56 "FundBook" "bankInterests" "[I", Cond.methodLink RX2 195 yX2_loanMarginsOfBranch, Cond.instanceMethod yX2_loanMarginsOfBranch, Cond.selects RX2 yX2_loanMarginsOfBranch yX2_loanMarginsOfBranch, Cond.initialized RX2, Cond.code yX2_loanMarginsOfBranch cX2_loanMarginsOfBranch 7 (some .int), Cond.instanceMethod yX0_ownMargin, Cond.initialized RX0, Cond.selects RX0 yX0_ownMargin yX0_ownMargin, Cond.code yX0_ownMargin cX0_ownMargin 1 (some .int), Cond.methodLink RX0 46 yX0_customerInterest, Cond.instanceMethod yX0_customerInterest, Cond.selects RX0 yX0_customerInterest yX0_customerInterest, Cond.code yX0_customerInterest cX0_customerInterest 1 (some .int), Cond.fieldLink RX0 18 "FundBook$Loan" "rate" "I", Cond.methodLink RX0 38 yX0_unpaid, Cond.instanceMethod yX0_unpaid, Cond.selects RX0 yX0_unpaid yX0_unpaid, Cond.code yX0_unpaid cX0_unpaid 3 (some .int)]
def wsX2_reckonLoans_r2 : List Cond := [Cond.fieldLink RX0 35 "FundBook$Loan" "paidParts" "I", Cond.fieldLink RX0 28 "FundBook$Loan" "parts" "[I", Cond.static yX2_forOneMonth, Cond.code yX2_forOneMonth cX2_forOneMonth 2 (some .int), Cond.constantLong RX2 187 (120000), Cond.methodLink RX0 49 yX0_funding, Cond.instanceMethod yX0_funding, Cond.selects RX0 yX0_funding yX0_funding, Cond.code yX0_funding cX0_funding 4 (some .int), Cond.fieldLink RX0 32 "FundBook$Loan" "fundingRates" "[I", Cond.methodLink RX0 52 yX0_optionCharge, Cond.instanceMethod yX0_optionCharge, Cond.selects RX0 yX0_optionCharge yX0_optionCharge, Cond.code yX0_optionCharge cX0_optionCharge 1 (some .int), Cond.fieldLink RX0 25 "FundBook$Loan" "optionRate" "I", Cond.methodLink RX2 198 yX2_loanMarginsOfProduct, Cond.instanceMethod yX2_loanMarginsOfProduct, Cond.selects RX2 yX2_loanMarginsOfProduct yX2_loanMarginsOfProduct, Cond.code yX2_loanMarginsOfProduct cX2_loanMarginsOfProduct 7 (some .int)]
def wsX2_reckonLoans : List Cond := .code yX2_reckonLoans cX2_reckonLoans 7 none :: ((wsX2_reckonLoans_r1 ++ wsX2_reckonLoans_r2) ++ wsX20 ++ wsX00)
def wsX2_paidForDeposits : List Cond := .code yX2_paidForDeposits cX2_paidForDeposits 5 (some .int) :: ([.fieldLink RX2 9 "FundBook" "curve" "[I", .methodLink RX2 191 yX2_coreOf, .instanceMethod yX2_coreOf, .selects RX2 yX2_coreOf yX2_coreOf, .initialized RX2, .code yX2_coreOf cX2_coreOf 3 (some .int), .fieldLink RX2 20 "FundBook" "coreShare" "I", .constantLong RX2 189 (100), .methodLink RX2 211 yX2_forOneMonth, .static yX2_forOneMonth, .code yX2_forOneMonth cX2_forOneMonth 2 (some .int), .constantLong RX2 187 (120000)] ++ wsX20)
def wsX2_reckonDeposits_r1 : List Cond := [Cond.fieldLink RX2 41 "FundBook" "replica" "LFundBook$Replica;", Cond.fieldLink RX2 35 "FundBook" "balances" "[I", Cond.fieldLink RX2 13 "FundBook" "depositRate" "I", Cond.fieldLink RX2 47 "FundBook" "branchMargins" "[[I", Cond.fieldLink RX2 23 "FundBook" "now" "I", Cond.fieldLink RX2 53 "FundBook" "treasuryMargins" "[I", Cond.fieldLink RX2 56 "FundBook" "bankInterests" "[I", Cond.instanceMethod yX1_averageRate, Cond.initialized RX1, Cond.selects RX1 yX1_averageRate yX1_averageRate, Cond.code yX1_averageRate cX1_averageRate 6 (some .int), Cond.fieldLink RX1 9 "FundBook$Replica" "amounts" "[I", Cond.fieldLink RX1 15 "FundBook$Replica" "rates" "[I", Cond.methodLink RX2 207 yX2_paidForDeposits, Cond.instanceMethod yX2_paidForDeposits, Cond.selects RX2 yX2_paidForDeposits yX2_paidForDeposits, Cond.initialized RX2, Cond.code yX2_paidForDeposits cX2_paidForDeposits 5 (some .int), Cond.fieldLink RX2 9 "FundBook" "curve" "[I", Cond.methodLink RX2 191 yX2_coreOf, Cond.instanceMethod yX2_coreOf, Cond.selects RX2 yX2_coreOf yX2_coreOf, Cond.code yX2_coreOf cX2_coreOf 3 (some .int), Cond.fieldLink RX2 20 "FundBook" "coreShare" "I"]
def wsX2_reckonDeposits_r2 : List Cond := [Cond.constantLong RX2 189 (100), Cond.methodLink RX2 211 yX2_forOneMonth, Cond.static yX2_forOneMonth, Cond.code yX2_forOneMonth cX2_forOneMonth 2 (some .int), Cond.constantLong RX2 187 (120000)]
def wsX2_reckonDeposits : List Cond := .code yX2_reckonDeposits cX2_reckonDeposits 5 none :: ((wsX2_reckonDeposits_r1 ++ wsX2_reckonDeposits_r2) ++ wsX20 ++ wsX10)
def wsX2_payParts : List Cond := .code yX2_payParts cX2_payParts 5 none :: ([.fieldLink RX2 28 "FundBook" "loanRows" "[LFundBook$Loan;", .instanceMethod yX0_payPart, .initialized RX0, .selects RX0 yX0_payPart yX0_payPart, .code yX0_payPart cX0_payPart 1 none, .fieldLink RX0 35 "FundBook$Loan" "paidParts" "I"] ++ wsX20 ++ wsX00)
def wsX2_closeMonth_r1 : List Cond := [Cond.classLink RX2 84 "java/lang/IllegalStateException", Cond.initialized "java/lang/IllegalStateException", Cond.fieldLink RX2 23 "FundBook" "now" "I", Cond.fieldLink RX2 41 "FundBook" "replica" "LFundBook$Replica;", Cond.fieldLink RX2 9 "FundBook" "curve" "[I", Cond.methodLink RX2 136 yX2_reckonLoans, Cond.instanceMethod yX2_reckonLoans, Cond.selects RX2 yX2_reckonLoans yX2_reckonLoans, Cond.initialized RX2, Cond.code yX2_reckonLoans cX2_reckonLoans 7 none, Cond.fieldLink RX2 47 "FundBook" "branchMargins" "[[I", Cond.fieldLink RX2 50 "FundBook" "productMargins" "[[I", Cond.fieldLink RX2 28 "FundBook" "loanRows" "[LFundBook$Loan;", Cond.fieldLink RX2 53 "FundBook" "treasuryMargins" "[I", Cond.fieldLink RX2 56 "FundBook" "bankInterests" "[I", Cond.methodLink RX2 195 yX2_loanMarginsOfBranch, Cond.instanceMethod yX2_loanMarginsOfBranch, Cond.selects RX2 yX2_loanMarginsOfBranch yX2_loanMarginsOfBranch, Cond.code yX2_loanMarginsOfBranch cX2_loanMarginsOfBranch 7 (some .int), Cond.instanceMethod yX0_ownMargin, Cond.initialized RX0, Cond.selects RX0 yX0_ownMargin yX0_ownMargin, Cond.code yX0_ownMargin cX0_ownMargin 1 (some .int), Cond.methodLink RX0 46 yX0_customerInterest]
def wsX2_closeMonth_r2 : List Cond := [Cond.instanceMethod yX0_customerInterest, Cond.selects RX0 yX0_customerInterest yX0_customerInterest, Cond.code yX0_customerInterest cX0_customerInterest 1 (some .int), Cond.fieldLink RX0 18 "FundBook$Loan" "rate" "I", Cond.methodLink RX0 38 yX0_unpaid, Cond.instanceMethod yX0_unpaid, Cond.selects RX0 yX0_unpaid yX0_unpaid, Cond.code yX0_unpaid cX0_unpaid 3 (some .int), Cond.fieldLink RX0 35 "FundBook$Loan" "paidParts" "I", Cond.fieldLink RX0 28 "FundBook$Loan" "parts" "[I", Cond.static yX2_forOneMonth, Cond.code yX2_forOneMonth cX2_forOneMonth 2 (some .int), Cond.constantLong RX2 187 (120000), Cond.methodLink RX0 49 yX0_funding, Cond.instanceMethod yX0_funding, Cond.selects RX0 yX0_funding yX0_funding, Cond.code yX0_funding cX0_funding 4 (some .int), Cond.fieldLink RX0 32 "FundBook$Loan" "fundingRates" "[I", Cond.methodLink RX0 52 yX0_optionCharge, Cond.instanceMethod yX0_optionCharge, Cond.selects RX0 yX0_optionCharge yX0_optionCharge, Cond.code yX0_optionCharge cX0_optionCharge 1 (some .int), Cond.fieldLink RX0 25 "FundBook$Loan" "optionRate" "I", Cond.methodLink RX2 198 yX2_loanMarginsOfProduct]
def wsX2_closeMonth_r3 : List Cond := [Cond.instanceMethod yX2_loanMarginsOfProduct, Cond.selects RX2 yX2_loanMarginsOfProduct yX2_loanMarginsOfProduct, Cond.code yX2_loanMarginsOfProduct cX2_loanMarginsOfProduct 7 (some .int), Cond.methodLink RX2 139 yX2_reckonDeposits, Cond.instanceMethod yX2_reckonDeposits, Cond.selects RX2 yX2_reckonDeposits yX2_reckonDeposits, Cond.code yX2_reckonDeposits cX2_reckonDeposits 5 none, Cond.fieldLink RX2 35 "FundBook" "balances" "[I", Cond.fieldLink RX2 13 "FundBook" "depositRate" "I", Cond.instanceMethod yX1_averageRate, Cond.initialized RX1, Cond.selects RX1 yX1_averageRate yX1_averageRate, Cond.code yX1_averageRate cX1_averageRate 6 (some .int), Cond.fieldLink RX1 9 "FundBook$Replica" "amounts" "[I", Cond.fieldLink RX1 15 "FundBook$Replica" "rates" "[I", Cond.methodLink RX2 207 yX2_paidForDeposits, Cond.instanceMethod yX2_paidForDeposits, Cond.selects RX2 yX2_paidForDeposits yX2_paidForDeposits, Cond.code yX2_paidForDeposits cX2_paidForDeposits 5 (some .int), Cond.methodLink RX2 191 yX2_coreOf, Cond.instanceMethod yX2_coreOf, Cond.selects RX2 yX2_coreOf yX2_coreOf, Cond.code yX2_coreOf cX2_coreOf 3 (some .int), Cond.fieldLink RX2 20 "FundBook" "coreShare" "I"]
def wsX2_closeMonth_r4 : List Cond := [Cond.constantLong RX2 189 (100), Cond.methodLink RX2 211 yX2_forOneMonth, Cond.methodLink RX2 142 yX2_payParts, Cond.instanceMethod yX2_payParts, Cond.selects RX2 yX2_payParts yX2_payParts, Cond.code yX2_payParts cX2_payParts 5 none, Cond.instanceMethod yX0_payPart, Cond.selects RX0 yX0_payPart yX0_payPart, Cond.code yX0_payPart cX0_payPart 1 none, Cond.methodLink RX2 127 yX2_trancheAmount, Cond.instanceMethod yX2_trancheAmount, Cond.selects RX2 yX2_trancheAmount yX2_trancheAmount, Cond.code yX2_trancheAmount cX2_trancheAmount 7 (some .int), Cond.instanceMethod yX1_lay, Cond.selects RX1 yX1_lay yX1_lay, Cond.code yX1_lay cX1_lay 4 none]
def wsX2_closeMonth : List Cond := .code yX2_closeMonth cX2_closeMonth 1 (some .int) :: ((wsX2_closeMonth_r1 ++ (wsX2_closeMonth_r2 ++ (wsX2_closeMonth_r3 ++ wsX2_closeMonth_r4))) ++ wsX20 ++ wsX00 ++ wsX10 ++ (vx_atS RX2 88 "java/lang/IllegalStateException" ["java/lang/RuntimeException", "java/lang/Exception"]).filter goodWord)
def wsX2_month : List Cond := .code yX2_month cX2_month 1 (some .int) :: ([.fieldLink RX2 23 "FundBook" "now" "I"] ++ wsX20)
def wsX2_loans : List Cond := .code yX2_loans cX2_loans 1 (some .int) :: ([.fieldLink RX2 32 "FundBook" "loanCount" "I"] ++ wsX20)
def wsX2_left : List Cond := .code yX2_left cX2_left 3 (some .int) :: ([.classLink RX2 59 "java/lang/IndexOutOfBoundsException", .initialized "java/lang/IndexOutOfBoundsException", .methodLink RX2 101 yX2_findLoan, .instanceMethod yX2_findLoan, .selects RX2 yX2_findLoan yX2_findLoan, .initialized RX2, .code yX2_findLoan cX2_findLoan 2 (some (.object "FundBook$Loan")), .fieldLink RX2 28 "FundBook" "loanRows" "[LFundBook$Loan;", .instanceMethod yX0_unpaid, .initialized RX0, .selects RX0 yX0_unpaid yX0_unpaid, .code yX0_unpaid cX0_unpaid 3 (some .int), .fieldLink RX0 35 "FundBook$Loan" "paidParts" "I", .fieldLink RX0 28 "FundBook$Loan" "parts" "[I"] ++ wsX20 ++ wsX00 ++ (vx_atS RX2 63 "java/lang/IndexOutOfBoundsException" ["java/lang/RuntimeException", "java/lang/Exception"]).filter goodWord)
def wsX2_bears_r1 : List Cond := [Cond.classLink RX2 59 "java/lang/IndexOutOfBoundsException", Cond.initialized "java/lang/IndexOutOfBoundsException", Cond.classLink RX2 66 "java/lang/IllegalArgumentException", Cond.initialized "java/lang/IllegalArgumentException", Cond.methodLink RX2 101 yX2_findLoan, Cond.instanceMethod yX2_findLoan, Cond.selects RX2 yX2_findLoan yX2_findLoan, Cond.initialized RX2, Cond.code yX2_findLoan cX2_findLoan 2 (some (.object "FundBook$Loan")), Cond.fieldLink RX2 28 "FundBook" "loanRows" "[LFundBook$Loan;", Cond.instanceMethod yX0_customerInterest, Cond.initialized RX0, Cond.selects RX0 yX0_customerInterest yX0_customerInterest, Cond.code yX0_customerInterest cX0_customerInterest 1 (some .int), Cond.fieldLink RX0 18 "FundBook$Loan" "rate" "I", Cond.methodLink RX0 38 yX0_unpaid, Cond.instanceMethod yX0_unpaid, Cond.selects RX0 yX0_unpaid yX0_unpaid, Cond.code yX0_unpaid cX0_unpaid 3 (some .int), Cond.fieldLink RX0 35 "FundBook$Loan" "paidParts" "I", Cond.fieldLink RX0 28 "FundBook$Loan" "parts" "[I", Cond.static yX2_forOneMonth, Cond.code yX2_forOneMonth cX2_forOneMonth 2 (some .int), Cond.constantLong RX2 187 (120000)]
def wsX2_bears_r2 : List Cond := [Cond.instanceMethod yX0_funding, Cond.selects RX0 yX0_funding yX0_funding, Cond.code yX0_funding cX0_funding 4 (some .int), Cond.fieldLink RX0 32 "FundBook$Loan" "fundingRates" "[I", Cond.instanceMethod yX0_optionCharge, Cond.selects RX0 yX0_optionCharge yX0_optionCharge, Cond.code yX0_optionCharge cX0_optionCharge 1 (some .int), Cond.fieldLink RX0 25 "FundBook$Loan" "optionRate" "I", Cond.instanceMethod yX0_ownMargin, Cond.selects RX0 yX0_ownMargin yX0_ownMargin, Cond.code yX0_ownMargin cX0_ownMargin 1 (some .int), Cond.methodLink RX0 46 yX0_customerInterest, Cond.methodLink RX0 49 yX0_funding, Cond.methodLink RX0 52 yX0_optionCharge]
def wsX2_bears : List Cond := .code yX2_bears cX2_bears 4 (some .int) :: ((wsX2_bears_r1 ++ wsX2_bears_r2) ++ wsX20 ++ wsX00 ++ (vx_atS RX2 63 "java/lang/IndexOutOfBoundsException" ["java/lang/RuntimeException", "java/lang/Exception"]).filter goodWord ++ (vx_atS RX2 70 "java/lang/IllegalArgumentException" ["java/lang/RuntimeException", "java/lang/Exception"]).filter goodWord)
def wsX2_due : List Cond := .code yX2_due cX2_due 7 (some .int) :: ([.classLink RX2 66 "java/lang/IllegalArgumentException", .initialized "java/lang/IllegalArgumentException", .fieldLink RX2 28 "FundBook" "loanRows" "[LFundBook$Loan;", .instanceMethod yX0_partAhead, .initialized RX0, .selects RX0 yX0_partAhead yX0_partAhead, .code yX0_partAhead cX0_partAhead 3 (some .int), .fieldLink RX0 35 "FundBook$Loan" "paidParts" "I", .fieldLink RX0 28 "FundBook$Loan" "parts" "[I"] ++ wsX20 ++ wsX00 ++ (vx_atS RX2 70 "java/lang/IllegalArgumentException" ["java/lang/RuntimeException", "java/lang/Exception"]).filter goodWord)
def wsX2_balance : List Cond := .code yX2_balance cX2_balance 2 (some .int) :: ([.classLink RX2 59 "java/lang/IndexOutOfBoundsException", .initialized "java/lang/IndexOutOfBoundsException", .fieldLink RX2 35 "FundBook" "balances" "[I"] ++ wsX20 ++ (vx_atS RX2 63 "java/lang/IndexOutOfBoundsException" ["java/lang/RuntimeException", "java/lang/Exception"]).filter goodWord)
def wsX2_tranche : List Cond := .code yX2_tranche cX2_tranche 2 (some .int) :: ([.classLink RX2 59 "java/lang/IndexOutOfBoundsException", .initialized "java/lang/IndexOutOfBoundsException", .fieldLink RX2 41 "FundBook" "replica" "LFundBook$Replica;"] ++ wsX20 ++ wsX10 ++ (vx_atS RX2 63 "java/lang/IndexOutOfBoundsException" ["java/lang/RuntimeException", "java/lang/Exception"]).filter goodWord)
def wsX2_replicaRate : List Cond := .code yX2_replicaRate cX2_replicaRate 1 (some .int) :: ([.fieldLink RX2 41 "FundBook" "replica" "LFundBook$Replica;", .instanceMethod yX1_averageRate, .initialized RX1, .selects RX1 yX1_averageRate yX1_averageRate, .code yX1_averageRate cX1_averageRate 6 (some .int), .fieldLink RX1 9 "FundBook$Replica" "amounts" "[I", .fieldLink RX1 15 "FundBook$Replica" "rates" "[I"] ++ wsX20 ++ wsX10)
def wsX2_hasEnded : List Cond := .code yX2_hasEnded cX2_hasEnded 2 (some .boolean) :: ([.fieldLink RX2 23 "FundBook" "now" "I"] ++ wsX20)
def wsX2_margin : List Cond := .code yX2_margin cX2_margin 3 (some .int) :: ([.classLink RX2 59 "java/lang/IndexOutOfBoundsException", .initialized "java/lang/IndexOutOfBoundsException", .fieldLink RX2 47 "FundBook" "branchMargins" "[[I", .methodLink RX2 177 yX2_hasEnded, .instanceMethod yX2_hasEnded, .selects RX2 yX2_hasEnded yX2_hasEnded, .initialized RX2, .code yX2_hasEnded cX2_hasEnded 2 (some .boolean), .fieldLink RX2 23 "FundBook" "now" "I"] ++ wsX20 ++ (vx_atS RX2 63 "java/lang/IndexOutOfBoundsException" ["java/lang/RuntimeException", "java/lang/Exception"]).filter goodWord)
def wsX2_byProduct : List Cond := .code yX2_byProduct cX2_byProduct 3 (some .int) :: ([.classLink RX2 59 "java/lang/IndexOutOfBoundsException", .initialized "java/lang/IndexOutOfBoundsException", .fieldLink RX2 50 "FundBook" "productMargins" "[[I", .methodLink RX2 177 yX2_hasEnded, .instanceMethod yX2_hasEnded, .selects RX2 yX2_hasEnded yX2_hasEnded, .initialized RX2, .code yX2_hasEnded cX2_hasEnded 2 (some .boolean), .fieldLink RX2 23 "FundBook" "now" "I"] ++ wsX20 ++ (vx_atS RX2 63 "java/lang/IndexOutOfBoundsException" ["java/lang/RuntimeException", "java/lang/Exception"]).filter goodWord)
def wsX2_treasury : List Cond := .code yX2_treasury cX2_treasury 2 (some .int) :: ([.classLink RX2 59 "java/lang/IndexOutOfBoundsException", .initialized "java/lang/IndexOutOfBoundsException", .fieldLink RX2 53 "FundBook" "treasuryMargins" "[I", .methodLink RX2 177 yX2_hasEnded, .instanceMethod yX2_hasEnded, .selects RX2 yX2_hasEnded yX2_hasEnded, .initialized RX2, .code yX2_hasEnded cX2_hasEnded 2 (some .boolean), .fieldLink RX2 23 "FundBook" "now" "I"] ++ wsX20 ++ (vx_atS RX2 63 "java/lang/IndexOutOfBoundsException" ["java/lang/RuntimeException", "java/lang/Exception"]).filter goodWord)
def wsX2_interest : List Cond := .code yX2_interest cX2_interest 2 (some .int) :: ([.classLink RX2 59 "java/lang/IndexOutOfBoundsException", .initialized "java/lang/IndexOutOfBoundsException", .fieldLink RX2 56 "FundBook" "bankInterests" "[I", .methodLink RX2 177 yX2_hasEnded, .instanceMethod yX2_hasEnded, .selects RX2 yX2_hasEnded yX2_hasEnded, .initialized RX2, .code yX2_hasEnded cX2_hasEnded 2 (some .boolean), .fieldLink RX2 23 "FundBook" "now" "I"] ++ wsX20 ++ (vx_atS RX2 63 "java/lang/IndexOutOfBoundsException" ["java/lang/RuntimeException", "java/lang/Exception"]).filter goodWord)
def wsX3_init : List Cond := .code yX3_init cX3_init 1 none :: ([.methodLink RX3 1 objectInit, .instanceMethod objectInit, .code objectInit ⟨#[0xb1]⟩ 1 none, .arrayClass .int, .fieldLink RX3 7 "FundBookModel" "curve" "[I", .fieldLink RX3 13 "FundBookModel" "share" "I", .fieldLink RX3 17 "FundBookModel" "branch" "[I", .fieldLink RX3 20 "FundBookModel" "product" "[I", .fieldLink RX3 23 "FundBookModel" "customers" "[I", .fieldLink RX3 26 "FundBookModel" "option" "[I", .arrayClass .boolean, .fieldLink RX3 29 "FundBookModel" "hasOption" "[Z", .fieldLink RX3 33 "FundBookModel" "born" "[I", .fieldLink RX3 36 "FundBookModel" "part" "[I", .fieldLink RX3 39 "FundBookModel" "funded" "[I", .fieldLink RX3 42 "FundBookModel" "balance" "[I", .fieldLink RX3 45 "FundBookModel" "tranche" "[I", .fieldLink RX3 48 "FundBookModel" "laidAt" "[I", .fieldLink RX3 51 "FundBookModel" "margins" "[I", .fieldLink RX3 54 "FundBookModel" "products" "[I", .fieldLink RX3 57 "FundBookModel" "treasuries" "[I", .fieldLink RX3 60 "FundBookModel" "interests" "[I"] ++ wsX30)
def wsX3_thrown : List Cond := .code yX3_thrown cX3_thrown 1 (some .int) :: ([.fieldLink RX3 63 "FundBookModel" "thrown" "I"] ++ wsX30)
def wsX3_fails : List Cond := .code yX3_fails cX3_fails 2 (some .int) :: ([.fieldLink RX3 63 "FundBookModel" "thrown" "I"] ++ wsX30)
def wsX3_in : List Cond := .code yX3_in cX3_in 3 (some .boolean) :: ([])
def wsX3_isLoan : List Cond := .code yX3_isLoan cX3_isLoan 2 (some .boolean) :: ([.fieldLink RX3 66 "FundBookModel" "loans" "I", .methodLink RX3 69 yX3_in, .static yX3_in, .initialized RX3, .code yX3_in cX3_in 3 (some .boolean)] ++ wsX30)
def wsX3_isBranch : List Cond := .code yX3_isBranch cX3_isBranch 1 (some .boolean) :: ([.methodLink RX3 69 yX3_in, .static yX3_in, .initialized RX3, .code yX3_in cX3_in 3 (some .boolean)])
def wsX3_isEnded : List Cond := .code yX3_isEnded cX3_isEnded 2 (some .boolean) :: ([.fieldLink RX3 73 "FundBookModel" "now" "I", .methodLink RX3 69 yX3_in, .static yX3_in, .initialized RX3, .code yX3_in cX3_in 3 (some .boolean)] ++ wsX30)
def wsX3_setCurve : List Cond := .code yX3_setCurve cX3_setCurve 4 (some .int) :: ([.fieldLink RX3 63 "FundBookModel" "thrown" "I", .fieldLink RX3 7 "FundBookModel" "curve" "[I", .methodLink RX3 69 yX3_in, .static yX3_in, .initialized RX3, .code yX3_in cX3_in 3 (some .boolean), .methodLink RX3 76 yX3_fails, .instanceMethod yX3_fails, .selects RX3 yX3_fails yX3_fails, .code yX3_fails cX3_fails 2 (some .int)] ++ wsX30)
def wsX3_setRates : List Cond := .code yX3_setRates cX3_setRates 4 none :: ([.fieldLink RX3 63 "FundBookModel" "thrown" "I", .fieldLink RX3 80 "FundBookModel" "depositRate" "I", .fieldLink RX3 83 "FundBookModel" "optionRate" "I", .fieldLink RX3 13 "FundBookModel" "share" "I", .methodLink RX3 69 yX3_in, .static yX3_in, .initialized RX3, .code yX3_in cX3_in 3 (some .boolean)] ++ wsX30)
def wsX3_leftOf : List Cond := .code yX3_leftOf cX3_leftOf 4 (some .int) :: ([.fieldLink RX3 36 "FundBookModel" "part" "[I"] ++ wsX30)
def wsX3_bear : List Cond := .code yX3_bear cX3_bear 10 (some .int) :: ([.fieldLink RX3 36 "FundBookModel" "part" "[I", .fieldLink RX3 39 "FundBookModel" "funded" "[I", .fieldLink RX3 23 "FundBookModel" "customers" "[I", .constantLong RX3 89 (120000), .fieldLink RX3 29 "FundBookModel" "hasOption" "[Z", .fieldLink RX3 26 "FundBookModel" "option" "[I", .methodLink RX3 86 yX3_leftOf, .instanceMethod yX3_leftOf, .selects RX3 yX3_leftOf yX3_leftOf, .initialized RX3, .code yX3_leftOf cX3_leftOf 4 (some .int)] ++ wsX30)
def wsX3_lend_r1 : List Cond := [Cond.fieldLink RX3 63 "FundBookModel" "thrown" "I", Cond.constant RX3 95 (10000000), Cond.fieldLink RX3 66 "FundBookModel" "loans" "I", Cond.fieldLink RX3 17 "FundBookModel" "branch" "[I", Cond.fieldLink RX3 20 "FundBookModel" "product" "[I", Cond.fieldLink RX3 23 "FundBookModel" "customers" "[I", Cond.fieldLink RX3 26 "FundBookModel" "option" "[I", Cond.fieldLink RX3 83 "FundBookModel" "optionRate" "I", Cond.fieldLink RX3 29 "FundBookModel" "hasOption" "[Z", Cond.fieldLink RX3 33 "FundBookModel" "born" "[I", Cond.fieldLink RX3 73 "FundBookModel" "now" "I", Cond.fieldLink RX3 36 "FundBookModel" "part" "[I", Cond.fieldLink RX3 39 "FundBookModel" "funded" "[I", Cond.fieldLink RX3 7 "FundBookModel" "curve" "[I", Cond.methodLink RX3 91 yX3_isBranch, Cond.static yX3_isBranch, Cond.initialized RX3, Cond.code yX3_isBranch cX3_isBranch 1 (some .boolean), Cond.methodLink RX3 69 yX3_in, Cond.static yX3_in, Cond.code yX3_in cX3_in 3 (some .boolean), Cond.methodLink RX3 76 yX3_fails, Cond.instanceMethod yX3_fails, Cond.selects RX3 yX3_fails yX3_fails]
def wsX3_lend_r2 : List Cond := [Cond.code yX3_fails cX3_fails 2 (some .int)]
def wsX3_lend : List Cond := .code yX3_lend cX3_lend 8 (some .int) :: ((wsX3_lend_r1 ++ wsX3_lend_r2) ++ wsX30)
def wsX3_repay : List Cond := .code yX3_repay cX3_repay 4 (some .int) :: ([.fieldLink RX3 63 "FundBookModel" "thrown" "I", .fieldLink RX3 29 "FundBookModel" "hasOption" "[Z", .fieldLink RX3 36 "FundBookModel" "part" "[I", .methodLink RX3 96 yX3_isLoan, .instanceMethod yX3_isLoan, .selects RX3 yX3_isLoan yX3_isLoan, .initialized RX3, .code yX3_isLoan cX3_isLoan 2 (some .boolean), .fieldLink RX3 66 "FundBookModel" "loans" "I", .methodLink RX3 69 yX3_in, .static yX3_in, .code yX3_in cX3_in 3 (some .boolean), .methodLink RX3 76 yX3_fails, .instanceMethod yX3_fails, .selects RX3 yX3_fails yX3_fails, .code yX3_fails cX3_fails 2 (some .int), .methodLink RX3 86 yX3_leftOf, .instanceMethod yX3_leftOf, .selects RX3 yX3_leftOf yX3_leftOf, .code yX3_leftOf cX3_leftOf 4 (some .int)] ++ wsX30)
def wsX3_core : List Cond := .code yX3_core cX3_core 4 (some .int) :: ([.fieldLink RX3 42 "FundBookModel" "balance" "[I", .fieldLink RX3 13 "FundBookModel" "share" "I", .constantLong RX3 99 (100)] ++ wsX30)
def wsX3_lays : List Cond := .code yX3_lays cX3_lays 2 none :: ([.fieldLink RX3 45 "FundBookModel" "tranche" "[I", .fieldLink RX3 48 "FundBookModel" "laidAt" "[I", .fieldLink RX3 7 "FundBookModel" "curve" "[I", .methodLink RX3 101 yX3_core, .instanceMethod yX3_core, .selects RX3 yX3_core yX3_core, .initialized RX3, .code yX3_core cX3_core 4 (some .int), .fieldLink RX3 42 "FundBookModel" "balance" "[I", .fieldLink RX3 13 "FundBookModel" "share" "I", .constantLong RX3 99 (100)] ++ wsX30)
def wsX3_replica : List Cond := .code yX3_replica cX3_replica 6 (some .int) :: ([.fieldLink RX3 45 "FundBookModel" "tranche" "[I", .fieldLink RX3 48 "FundBookModel" "laidAt" "[I"] ++ wsX30)
def wsX3_deposit_r1 : List Cond := [Cond.fieldLink RX3 63 "FundBookModel" "thrown" "I", Cond.constant RX3 105 (-10000000), Cond.constant RX3 95 (10000000), Cond.fieldLink RX3 42 "FundBookModel" "balance" "[I", Cond.fieldLink RX3 73 "FundBookModel" "now" "I", Cond.methodLink RX3 91 yX3_isBranch, Cond.static yX3_isBranch, Cond.initialized RX3, Cond.code yX3_isBranch cX3_isBranch 1 (some .boolean), Cond.methodLink RX3 69 yX3_in, Cond.static yX3_in, Cond.code yX3_in cX3_in 3 (some .boolean), Cond.methodLink RX3 76 yX3_fails, Cond.instanceMethod yX3_fails, Cond.selects RX3 yX3_fails yX3_fails, Cond.code yX3_fails cX3_fails 2 (some .int), Cond.methodLink RX3 106 yX3_lays, Cond.instanceMethod yX3_lays, Cond.selects RX3 yX3_lays yX3_lays, Cond.code yX3_lays cX3_lays 2 none, Cond.fieldLink RX3 45 "FundBookModel" "tranche" "[I", Cond.fieldLink RX3 48 "FundBookModel" "laidAt" "[I", Cond.fieldLink RX3 7 "FundBookModel" "curve" "[I", Cond.methodLink RX3 101 yX3_core]
def wsX3_deposit_r2 : List Cond := [Cond.instanceMethod yX3_core, Cond.selects RX3 yX3_core yX3_core, Cond.code yX3_core cX3_core 4 (some .int), Cond.fieldLink RX3 13 "FundBookModel" "share" "I", Cond.constantLong RX3 99 (100)]
def wsX3_deposit : List Cond := .code yX3_deposit cX3_deposit 4 (some .int) :: ((wsX3_deposit_r1 ++ wsX3_deposit_r2) ++ wsX30)
def wsX3_isPaid : List Cond := .code yX3_isPaid cX3_isPaid 4 (some .int) :: ([.fieldLink RX3 42 "FundBookModel" "balance" "[I", .fieldLink RX3 13 "FundBookModel" "share" "I", .constantLong RX3 99 (100), .fieldLink RX3 7 "FundBookModel" "curve" "[I", .constantLong RX3 89 (120000), .methodLink RX3 110 yX3_replica, .instanceMethod yX3_replica, .selects RX3 yX3_replica yX3_replica, .initialized RX3, .code yX3_replica cX3_replica 6 (some .int), .fieldLink RX3 45 "FundBookModel" "tranche" "[I", .fieldLink RX3 48 "FundBookModel" "laidAt" "[I"] ++ wsX30)
def wsX3_pays : List Cond := .code yX3_pays cX3_pays 2 (some .int) :: ([.fieldLink RX3 42 "FundBookModel" "balance" "[I", .fieldLink RX3 80 "FundBookModel" "depositRate" "I", .constantLong RX3 89 (120000)] ++ wsX30)
def wsX3_closeMonth_r1 : List Cond := [Cond.fieldLink RX3 63 "FundBookModel" "thrown" "I", Cond.fieldLink RX3 73 "FundBookModel" "now" "I", Cond.fieldLink RX3 66 "FundBookModel" "loans" "I", Cond.fieldLink RX3 51 "FundBookModel" "margins" "[I", Cond.fieldLink RX3 17 "FundBookModel" "branch" "[I", Cond.fieldLink RX3 54 "FundBookModel" "products" "[I", Cond.fieldLink RX3 20 "FundBookModel" "product" "[I", Cond.fieldLink RX3 57 "FundBookModel" "treasuries" "[I", Cond.fieldLink RX3 60 "FundBookModel" "interests" "[I", Cond.fieldLink RX3 33 "FundBookModel" "born" "[I", Cond.fieldLink RX3 36 "FundBookModel" "part" "[I", Cond.methodLink RX3 76 yX3_fails, Cond.instanceMethod yX3_fails, Cond.selects RX3 yX3_fails yX3_fails, Cond.initialized RX3, Cond.code yX3_fails cX3_fails 2 (some .int), Cond.methodLink RX3 113 yX3_bear, Cond.instanceMethod yX3_bear, Cond.selects RX3 yX3_bear yX3_bear, Cond.code yX3_bear cX3_bear 10 (some .int), Cond.fieldLink RX3 39 "FundBookModel" "funded" "[I", Cond.fieldLink RX3 23 "FundBookModel" "customers" "[I", Cond.constantLong RX3 89 (120000), Cond.fieldLink RX3 29 "FundBookModel" "hasOption" "[Z"]
def wsX3_closeMonth_r2 : List Cond := [Cond.fieldLink RX3 26 "FundBookModel" "option" "[I", Cond.methodLink RX3 86 yX3_leftOf, Cond.instanceMethod yX3_leftOf, Cond.selects RX3 yX3_leftOf yX3_leftOf, Cond.code yX3_leftOf cX3_leftOf 4 (some .int), Cond.methodLink RX3 117 yX3_isPaid, Cond.instanceMethod yX3_isPaid, Cond.selects RX3 yX3_isPaid yX3_isPaid, Cond.code yX3_isPaid cX3_isPaid 4 (some .int), Cond.fieldLink RX3 42 "FundBookModel" "balance" "[I", Cond.fieldLink RX3 13 "FundBookModel" "share" "I", Cond.constantLong RX3 99 (100), Cond.fieldLink RX3 7 "FundBookModel" "curve" "[I", Cond.methodLink RX3 110 yX3_replica, Cond.instanceMethod yX3_replica, Cond.selects RX3 yX3_replica yX3_replica, Cond.code yX3_replica cX3_replica 6 (some .int), Cond.fieldLink RX3 45 "FundBookModel" "tranche" "[I", Cond.fieldLink RX3 48 "FundBookModel" "laidAt" "[I", Cond.methodLink RX3 120 yX3_pays, Cond.instanceMethod yX3_pays, Cond.selects RX3 yX3_pays yX3_pays, Cond.code yX3_pays cX3_pays 2 (some .int), Cond.fieldLink RX3 80 "FundBookModel" "depositRate" "I"]
def wsX3_closeMonth_r3 : List Cond := [Cond.methodLink RX3 106 yX3_lays, Cond.instanceMethod yX3_lays, Cond.selects RX3 yX3_lays yX3_lays, Cond.code yX3_lays cX3_lays 2 none, Cond.methodLink RX3 101 yX3_core, Cond.instanceMethod yX3_core, Cond.selects RX3 yX3_core yX3_core, Cond.code yX3_core cX3_core 4 (some .int)]
def wsX3_closeMonth : List Cond := .code yX3_closeMonth cX3_closeMonth 4 (some .int) :: ((wsX3_closeMonth_r1 ++ (wsX3_closeMonth_r2 ++ wsX3_closeMonth_r3)) ++ wsX30)
def wsX3_month : List Cond := .code yX3_month cX3_month 1 (some .int) :: ([.fieldLink RX3 63 "FundBookModel" "thrown" "I", .fieldLink RX3 73 "FundBookModel" "now" "I"] ++ wsX30)
def wsX3_loans : List Cond := .code yX3_loans cX3_loans 1 (some .int) :: ([.fieldLink RX3 63 "FundBookModel" "thrown" "I", .fieldLink RX3 66 "FundBookModel" "loans" "I"] ++ wsX30)
def wsX3_left : List Cond := .code yX3_left cX3_left 2 (some .int) :: ([.fieldLink RX3 63 "FundBookModel" "thrown" "I", .methodLink RX3 96 yX3_isLoan, .instanceMethod yX3_isLoan, .selects RX3 yX3_isLoan yX3_isLoan, .initialized RX3, .code yX3_isLoan cX3_isLoan 2 (some .boolean), .fieldLink RX3 66 "FundBookModel" "loans" "I", .methodLink RX3 69 yX3_in, .static yX3_in, .code yX3_in cX3_in 3 (some .boolean), .methodLink RX3 86 yX3_leftOf, .instanceMethod yX3_leftOf, .selects RX3 yX3_leftOf yX3_leftOf, .code yX3_leftOf cX3_leftOf 4 (some .int), .fieldLink RX3 36 "FundBookModel" "part" "[I", .methodLink RX3 76 yX3_fails, .instanceMethod yX3_fails, .selects RX3 yX3_fails yX3_fails, .code yX3_fails cX3_fails 2 (some .int)] ++ wsX30)
def wsX3_bears_r1 : List Cond := [Cond.fieldLink RX3 63 "FundBookModel" "thrown" "I", Cond.methodLink RX3 96 yX3_isLoan, Cond.instanceMethod yX3_isLoan, Cond.selects RX3 yX3_isLoan yX3_isLoan, Cond.initialized RX3, Cond.code yX3_isLoan cX3_isLoan 2 (some .boolean), Cond.fieldLink RX3 66 "FundBookModel" "loans" "I", Cond.methodLink RX3 69 yX3_in, Cond.static yX3_in, Cond.code yX3_in cX3_in 3 (some .boolean), Cond.methodLink RX3 76 yX3_fails, Cond.instanceMethod yX3_fails, Cond.selects RX3 yX3_fails yX3_fails, Cond.code yX3_fails cX3_fails 2 (some .int), Cond.methodLink RX3 113 yX3_bear, Cond.instanceMethod yX3_bear, Cond.selects RX3 yX3_bear yX3_bear, Cond.code yX3_bear cX3_bear 10 (some .int), Cond.fieldLink RX3 36 "FundBookModel" "part" "[I", Cond.fieldLink RX3 39 "FundBookModel" "funded" "[I", Cond.fieldLink RX3 23 "FundBookModel" "customers" "[I", Cond.constantLong RX3 89 (120000), Cond.fieldLink RX3 29 "FundBookModel" "hasOption" "[Z", Cond.fieldLink RX3 26 "FundBookModel" "option" "[I"]
def wsX3_bears_r2 : List Cond := [Cond.methodLink RX3 86 yX3_leftOf, Cond.instanceMethod yX3_leftOf, Cond.selects RX3 yX3_leftOf yX3_leftOf, Cond.code yX3_leftOf cX3_leftOf 4 (some .int)]
def wsX3_bears : List Cond := .code yX3_bears cX3_bears 3 (some .int) :: ((wsX3_bears_r1 ++ wsX3_bears_r2) ++ wsX30)
def wsX3_due : List Cond := .code yX3_due cX3_due 5 (some .int) :: ([.fieldLink RX3 63 "FundBookModel" "thrown" "I", .fieldLink RX3 66 "FundBookModel" "loans" "I", .fieldLink RX3 73 "FundBookModel" "now" "I", .fieldLink RX3 33 "FundBookModel" "born" "[I", .fieldLink RX3 36 "FundBookModel" "part" "[I", .methodLink RX3 69 yX3_in, .static yX3_in, .initialized RX3, .code yX3_in cX3_in 3 (some .boolean), .methodLink RX3 76 yX3_fails, .instanceMethod yX3_fails, .selects RX3 yX3_fails yX3_fails, .code yX3_fails cX3_fails 2 (some .int)] ++ wsX30)
def wsX3_balance : List Cond := .code yX3_balance cX3_balance 2 (some .int) :: ([.fieldLink RX3 63 "FundBookModel" "thrown" "I", .fieldLink RX3 42 "FundBookModel" "balance" "[I", .methodLink RX3 91 yX3_isBranch, .static yX3_isBranch, .initialized RX3, .code yX3_isBranch cX3_isBranch 1 (some .boolean), .methodLink RX3 69 yX3_in, .static yX3_in, .code yX3_in cX3_in 3 (some .boolean), .methodLink RX3 76 yX3_fails, .instanceMethod yX3_fails, .selects RX3 yX3_fails yX3_fails, .code yX3_fails cX3_fails 2 (some .int)] ++ wsX30)
def wsX3_tranche : List Cond := .code yX3_tranche cX3_tranche 2 (some .int) :: ([.fieldLink RX3 63 "FundBookModel" "thrown" "I", .fieldLink RX3 45 "FundBookModel" "tranche" "[I", .methodLink RX3 69 yX3_in, .static yX3_in, .initialized RX3, .code yX3_in cX3_in 3 (some .boolean), .methodLink RX3 76 yX3_fails, .instanceMethod yX3_fails, .selects RX3 yX3_fails yX3_fails, .code yX3_fails cX3_fails 2 (some .int)] ++ wsX30)
def wsX3_replicaRate : List Cond := .code yX3_replicaRate cX3_replicaRate 1 (some .int) :: ([.fieldLink RX3 63 "FundBookModel" "thrown" "I", .methodLink RX3 110 yX3_replica, .instanceMethod yX3_replica, .selects RX3 yX3_replica yX3_replica, .initialized RX3, .code yX3_replica cX3_replica 6 (some .int), .fieldLink RX3 45 "FundBookModel" "tranche" "[I", .fieldLink RX3 48 "FundBookModel" "laidAt" "[I"] ++ wsX30)
def wsX3_margin : List Cond := .code yX3_margin cX3_margin 3 (some .int) :: ([.fieldLink RX3 63 "FundBookModel" "thrown" "I", .fieldLink RX3 51 "FundBookModel" "margins" "[I", .methodLink RX3 91 yX3_isBranch, .static yX3_isBranch, .initialized RX3, .code yX3_isBranch cX3_isBranch 1 (some .boolean), .methodLink RX3 69 yX3_in, .static yX3_in, .code yX3_in cX3_in 3 (some .boolean), .methodLink RX3 123 yX3_isEnded, .instanceMethod yX3_isEnded, .selects RX3 yX3_isEnded yX3_isEnded, .code yX3_isEnded cX3_isEnded 2 (some .boolean), .fieldLink RX3 73 "FundBookModel" "now" "I", .methodLink RX3 76 yX3_fails, .instanceMethod yX3_fails, .selects RX3 yX3_fails yX3_fails, .code yX3_fails cX3_fails 2 (some .int)] ++ wsX30)
def wsX3_byProduct : List Cond := .code yX3_byProduct cX3_byProduct 3 (some .int) :: ([.fieldLink RX3 63 "FundBookModel" "thrown" "I", .fieldLink RX3 54 "FundBookModel" "products" "[I", .methodLink RX3 69 yX3_in, .static yX3_in, .initialized RX3, .code yX3_in cX3_in 3 (some .boolean), .methodLink RX3 123 yX3_isEnded, .instanceMethod yX3_isEnded, .selects RX3 yX3_isEnded yX3_isEnded, .code yX3_isEnded cX3_isEnded 2 (some .boolean), .fieldLink RX3 73 "FundBookModel" "now" "I", .methodLink RX3 76 yX3_fails, .instanceMethod yX3_fails, .selects RX3 yX3_fails yX3_fails, .code yX3_fails cX3_fails 2 (some .int)] ++ wsX30)
def wsX3_treasury : List Cond := .code yX3_treasury cX3_treasury 2 (some .int) :: ([.fieldLink RX3 63 "FundBookModel" "thrown" "I", .fieldLink RX3 57 "FundBookModel" "treasuries" "[I", .methodLink RX3 123 yX3_isEnded, .instanceMethod yX3_isEnded, .selects RX3 yX3_isEnded yX3_isEnded, .initialized RX3, .code yX3_isEnded cX3_isEnded 2 (some .boolean), .fieldLink RX3 73 "FundBookModel" "now" "I", .methodLink RX3 69 yX3_in, .static yX3_in, .code yX3_in cX3_in 3 (some .boolean), .methodLink RX3 76 yX3_fails, .instanceMethod yX3_fails, .selects RX3 yX3_fails yX3_fails, .code yX3_fails cX3_fails 2 (some .int)] ++ wsX30)
def wsX3_interest : List Cond := .code yX3_interest cX3_interest 2 (some .int) :: ([.fieldLink RX3 63 "FundBookModel" "thrown" "I", .fieldLink RX3 60 "FundBookModel" "interests" "[I", .methodLink RX3 123 yX3_isEnded, .instanceMethod yX3_isEnded, .selects RX3 yX3_isEnded yX3_isEnded, .initialized RX3, .code yX3_isEnded cX3_isEnded 2 (some .boolean), .fieldLink RX3 73 "FundBookModel" "now" "I", .methodLink RX3 69 yX3_in, .static yX3_in, .code yX3_in cX3_in 3 (some .boolean), .methodLink RX3 76 yX3_fails, .instanceMethod yX3_fails, .selects RX3 yX3_fails yX3_fails, .code yX3_fails cX3_fails 2 (some .int)] ++ wsX30)
def wsL_setCurve : List Cond := .codeWith yL_setCurve cL_setCurve 5 (some .int) [(0, 10, 13, 13), (0, 10, 17, 15)] :: ([.classLink RL 13 "java/lang/IndexOutOfBoundsException", .classLink RL 15 "java/lang/IllegalArgumentException", .methodLink RL 7 yX2_setCurve, .instanceMethod yX2_setCurve, .selects RX2 yX2_setCurve yX2_setCurve, .initialized RX2, .code yX2_setCurve cX2_setCurve 4 (some .int), .classLink RX2 59 "java/lang/IndexOutOfBoundsException", .initialized "java/lang/IndexOutOfBoundsException", .classLink RX2 66 "java/lang/IllegalArgumentException", .initialized "java/lang/IllegalArgumentException", .fieldLink RX2 9 "FundBook" "curve" "[I"] ++ wsX20 ++ (vx_atS RX2 63 "java/lang/IndexOutOfBoundsException" ["java/lang/RuntimeException", "java/lang/Exception"]).filter goodWord ++ (vx_atS RX2 70 "java/lang/IllegalArgumentException" ["java/lang/RuntimeException", "java/lang/Exception"]).filter goodWord)
def wsL_setRates : List Cond := .codeWith yL_setRates cL_setRates 5 (some .int) [(0, 7, 10, 15)] :: ([.classLink RL 15 "java/lang/IllegalArgumentException", .methodLink RL 17 yX2_setRates, .instanceMethod yX2_setRates, .selects RX2 yX2_setRates yX2_setRates, .initialized RX2, .code yX2_setRates cX2_setRates 4 none, .classLink RX2 66 "java/lang/IllegalArgumentException", .initialized "java/lang/IllegalArgumentException", .fieldLink RX2 13 "FundBook" "depositRate" "I", .fieldLink RX2 17 "FundBook" "optionRate" "I", .fieldLink RX2 20 "FundBook" "coreShare" "I"] ++ wsX20 ++ (vx_atS RX2 70 "java/lang/IllegalArgumentException" ["java/lang/RuntimeException", "java/lang/Exception"]).filter goodWord)
def wsL_lend_r1 : List Cond := [Cond.classLink RL 13 "java/lang/IndexOutOfBoundsException", Cond.classLink RL 15 "java/lang/IllegalArgumentException", Cond.classLink RL 25 "java/lang/IllegalStateException", Cond.methodLink RL 21 yX2_lend, Cond.instanceMethod yX2_lend, Cond.selects RX2 yX2_lend yX2_lend, Cond.initialized RX2, Cond.code yX2_lend cX2_lend 10 (some .int), Cond.classLink RX2 59 "java/lang/IndexOutOfBoundsException", Cond.initialized "java/lang/IndexOutOfBoundsException", Cond.classLink RX2 66 "java/lang/IllegalArgumentException", Cond.initialized "java/lang/IllegalArgumentException", Cond.classLink RX2 84 "java/lang/IllegalStateException", Cond.initialized "java/lang/IllegalStateException", Cond.constant RX2 79 (10000000), Cond.fieldLink RX2 32 "FundBook" "loanCount" "I", Cond.fieldLink RX2 17 "FundBook" "optionRate" "I", Cond.fieldLink RX2 28 "FundBook" "loanRows" "[LFundBook$Loan;", Cond.classLink RX2 26 RX0, Cond.instantiable RX0 8, Cond.initialized RX0, Cond.fieldLink RX2 9 "FundBook" "curve" "[I", Cond.methodLink RX2 93 ⟨"[I", "clone", "()Ljava/lang/Object;"⟩, Cond.sameMethod "[I" "java/lang/Object" "clone" "()Ljava/lang/Object;"]
def wsL_lend_r2 : List Cond := [Cond.native ⟨"java/lang/Object", "clone", "()Ljava/lang/Object;"⟩, Cond.instanceMethod ⟨"java/lang/Object", "clone", "()Ljava/lang/Object;"⟩, Cond.selects "[I" ⟨"[I", "clone", "()Ljava/lang/Object;"⟩ ⟨"java/lang/Object", "clone", "()Ljava/lang/Object;"⟩, Cond.classLink RX2 94 "[I", Cond.methodLink RX2 89 yX2_cutIntoParts, Cond.static yX2_cutIntoParts, Cond.code yX2_cutIntoParts cX2_cutIntoParts 5 (some (.array .int)), Cond.arrayClass .int, Cond.instanceMethod yX0_init, Cond.code yX0_init cX0_init 8 none, Cond.methodLink RX0 3 objectInit, Cond.instanceMethod objectInit, Cond.code objectInit ⟨#[0xb1]⟩ 1 none, Cond.fieldLink RX0 9 "FundBook$Loan" "branch" "I", Cond.fieldLink RX0 15 "FundBook$Loan" "product" "I", Cond.fieldLink RX0 18 "FundBook$Loan" "rate" "I", Cond.fieldLink RX0 21 "FundBook$Loan" "hasOption" "Z", Cond.fieldLink RX0 25 "FundBook$Loan" "optionRate" "I", Cond.fieldLink RX0 28 "FundBook$Loan" "parts" "[I", Cond.fieldLink RX0 32 "FundBook$Loan" "fundingRates" "[I", Cond.fieldLink RX0 35 "FundBook$Loan" "paidParts" "I"]
def wsL_lend : List Cond := .codeWith yL_lend cL_lend 9 (some .int) [(0, 18, 21, 13), (0, 18, 25, 15), (0, 18, 29, 25)] :: ((wsL_lend_r1 ++ wsL_lend_r2) ++ wsX20 ++ wsX00 ++ (vx_atS RX2 63 "java/lang/IndexOutOfBoundsException" ["java/lang/RuntimeException", "java/lang/Exception"]).filter goodWord ++ (vx_atS RX2 70 "java/lang/IllegalArgumentException" ["java/lang/RuntimeException", "java/lang/Exception"]).filter goodWord ++ (vx_atS RX2 88 "java/lang/IllegalStateException" ["java/lang/RuntimeException", "java/lang/Exception"]).filter goodWord)
def wsL_repay_r1 : List Cond := [Cond.classLink RL 13 "java/lang/IndexOutOfBoundsException", Cond.classLink RL 25 "java/lang/IllegalStateException", Cond.methodLink RL 27 yX2_repay, Cond.instanceMethod yX2_repay, Cond.selects RX2 yX2_repay yX2_repay, Cond.initialized RX2, Cond.code yX2_repay cX2_repay 4 (some .int), Cond.classLink RX2 59 "java/lang/IndexOutOfBoundsException", Cond.initialized "java/lang/IndexOutOfBoundsException", Cond.classLink RX2 84 "java/lang/IllegalStateException", Cond.initialized "java/lang/IllegalStateException", Cond.methodLink RX2 101 yX2_findLoan, Cond.instanceMethod yX2_findLoan, Cond.selects RX2 yX2_findLoan yX2_findLoan, Cond.code yX2_findLoan cX2_findLoan 2 (some (.object "FundBook$Loan")), Cond.fieldLink RX2 28 "FundBook" "loanRows" "[LFundBook$Loan;", Cond.instanceMethod yX0_unpaid, Cond.initialized RX0, Cond.selects RX0 yX0_unpaid yX0_unpaid, Cond.code yX0_unpaid cX0_unpaid 3 (some .int), Cond.fieldLink RX0 35 "FundBook$Loan" "paidParts" "I", Cond.fieldLink RX0 28 "FundBook$Loan" "parts" "[I", Cond.instanceMethod yX0_settle, Cond.selects RX0 yX0_settle yX0_settle]
def wsL_repay_r2 : List Cond := [Cond.code yX0_settle cX0_settle 1 none]
def wsL_repay : List Cond := .codeWith yL_repay cL_repay 4 (some .int) [(0, 9, 12, 13), (0, 9, 15, 25)] :: ((wsL_repay_r1 ++ wsL_repay_r2) ++ wsX00 ++ wsX20 ++ (vx_atS RX2 63 "java/lang/IndexOutOfBoundsException" ["java/lang/RuntimeException", "java/lang/Exception"]).filter goodWord ++ (vx_atS RX2 88 "java/lang/IllegalStateException" ["java/lang/RuntimeException", "java/lang/Exception"]).filter goodWord)
def wsL_deposit_r1 : List Cond := [Cond.classLink RL 13 "java/lang/IndexOutOfBoundsException", Cond.classLink RL 15 "java/lang/IllegalArgumentException", Cond.classLink RL 25 "java/lang/IllegalStateException", Cond.methodLink RL 31 yX2_deposit, Cond.instanceMethod yX2_deposit, Cond.selects RX2 yX2_deposit yX2_deposit, Cond.initialized RX2, Cond.code yX2_deposit cX2_deposit 4 (some .int), Cond.classLink RX2 59 "java/lang/IndexOutOfBoundsException", Cond.initialized "java/lang/IndexOutOfBoundsException", Cond.classLink RX2 66 "java/lang/IllegalArgumentException", Cond.initialized "java/lang/IllegalArgumentException", Cond.classLink RX2 84 "java/lang/IllegalStateException", Cond.initialized "java/lang/IllegalStateException", Cond.constant RX2 122 (-10000000), Cond.constant RX2 79 (10000000), Cond.fieldLink RX2 35 "FundBook" "balances" "[I", Cond.fieldLink RX2 23 "FundBook" "now" "I", Cond.fieldLink RX2 41 "FundBook" "replica" "LFundBook$Replica;", Cond.fieldLink RX2 9 "FundBook" "curve" "[I", Cond.methodLink RX2 127 yX2_trancheAmount, Cond.instanceMethod yX2_trancheAmount, Cond.selects RX2 yX2_trancheAmount yX2_trancheAmount, Cond.code yX2_trancheAmount cX2_trancheAmount 7 (some .int)]
def wsL_deposit_r2 : List Cond := [Cond.methodLink RX2 191 yX2_coreOf, Cond.instanceMethod yX2_coreOf, Cond.selects RX2 yX2_coreOf yX2_coreOf, Cond.code yX2_coreOf cX2_coreOf 3 (some .int), Cond.fieldLink RX2 20 "FundBook" "coreShare" "I", Cond.constantLong RX2 189 (100), Cond.instanceMethod yX1_layAll, Cond.initialized RX1, Cond.selects RX1 yX1_layAll yX1_layAll, Cond.code yX1_layAll cX1_layAll 4 none, Cond.methodLink RX1 18 yX1_lay, Cond.instanceMethod yX1_lay, Cond.selects RX1 yX1_lay yX1_lay, Cond.code yX1_lay cX1_lay 4 none, Cond.fieldLink RX1 9 "FundBook$Replica" "amounts" "[I", Cond.fieldLink RX1 15 "FundBook$Replica" "rates" "[I"]
def wsL_deposit : List Cond := .codeWith yL_deposit cL_deposit 5 (some .int) [(0, 10, 13, 13), (0, 10, 17, 15), (0, 10, 21, 25)] :: ((wsL_deposit_r1 ++ wsL_deposit_r2) ++ wsX20 ++ wsX10 ++ (vx_atS RX2 63 "java/lang/IndexOutOfBoundsException" ["java/lang/RuntimeException", "java/lang/Exception"]).filter goodWord ++ (vx_atS RX2 70 "java/lang/IllegalArgumentException" ["java/lang/RuntimeException", "java/lang/Exception"]).filter goodWord ++ (vx_atS RX2 88 "java/lang/IllegalStateException" ["java/lang/RuntimeException", "java/lang/Exception"]).filter goodWord)
def wsL_closeMonth_r1 : List Cond := [Cond.classLink RL 25 "java/lang/IllegalStateException", Cond.methodLink RL 34 yX2_closeMonth, Cond.instanceMethod yX2_closeMonth, Cond.selects RX2 yX2_closeMonth yX2_closeMonth, Cond.initialized RX2, Cond.code yX2_closeMonth cX2_closeMonth 1 (some .int), Cond.classLink RX2 84 "java/lang/IllegalStateException", Cond.initialized "java/lang/IllegalStateException", Cond.fieldLink RX2 23 "FundBook" "now" "I", Cond.fieldLink RX2 41 "FundBook" "replica" "LFundBook$Replica;", Cond.fieldLink RX2 9 "FundBook" "curve" "[I", Cond.methodLink RX2 136 yX2_reckonLoans, Cond.instanceMethod yX2_reckonLoans, Cond.selects RX2 yX2_reckonLoans yX2_reckonLoans, Cond.code yX2_reckonLoans cX2_reckonLoans 7 none, Cond.fieldLink RX2 47 "FundBook" "branchMargins" "[[I", Cond.fieldLink RX2 50 "FundBook" "productMargins" "[[I", Cond.fieldLink RX2 28 "FundBook" "loanRows" "[LFundBook$Loan;", Cond.fieldLink RX2 53 "FundBook" "treasuryMargins" "[I", Cond.fieldLink RX2 56 "FundBook" "bankInterests" "[I", Cond.methodLink RX2 195 yX2_loanMarginsOfBranch, Cond.instanceMethod yX2_loanMarginsOfBranch, Cond.selects RX2 yX2_loanMarginsOfBranch yX2_loanMarginsOfBranch, Cond.code yX2_loanMarginsOfBranch cX2_loanMarginsOfBranch 7 (some .int)]
def wsL_closeMonth_r2 : List Cond := [Cond.instanceMethod yX0_ownMargin, Cond.initialized RX0, Cond.selects RX0 yX0_ownMargin yX0_ownMargin, Cond.code yX0_ownMargin cX0_ownMargin 1 (some .int), Cond.methodLink RX0 46 yX0_customerInterest, Cond.instanceMethod yX0_customerInterest, Cond.selects RX0 yX0_customerInterest yX0_customerInterest, Cond.code yX0_customerInterest cX0_customerInterest 1 (some .int), Cond.fieldLink RX0 18 "FundBook$Loan" "rate" "I", Cond.methodLink RX0 38 yX0_unpaid, Cond.instanceMethod yX0_unpaid, Cond.selects RX0 yX0_unpaid yX0_unpaid, Cond.code yX0_unpaid cX0_unpaid 3 (some .int), Cond.fieldLink RX0 35 "FundBook$Loan" "paidParts" "I", Cond.fieldLink RX0 28 "FundBook$Loan" "parts" "[I", Cond.static yX2_forOneMonth, Cond.code yX2_forOneMonth cX2_forOneMonth 2 (some .int), Cond.constantLong RX2 187 (120000), Cond.methodLink RX0 49 yX0_funding, Cond.instanceMethod yX0_funding, Cond.selects RX0 yX0_funding yX0_funding, Cond.code yX0_funding cX0_funding 4 (some .int), Cond.fieldLink RX0 32 "FundBook$Loan" "fundingRates" "[I", Cond.methodLink RX0 52 yX0_optionCharge]
def wsL_closeMonth_r3 : List Cond := [Cond.instanceMethod yX0_optionCharge, Cond.selects RX0 yX0_optionCharge yX0_optionCharge, Cond.code yX0_optionCharge cX0_optionCharge 1 (some .int), Cond.fieldLink RX0 25 "FundBook$Loan" "optionRate" "I", Cond.methodLink RX2 198 yX2_loanMarginsOfProduct, Cond.instanceMethod yX2_loanMarginsOfProduct, Cond.selects RX2 yX2_loanMarginsOfProduct yX2_loanMarginsOfProduct, Cond.code yX2_loanMarginsOfProduct cX2_loanMarginsOfProduct 7 (some .int), Cond.methodLink RX2 139 yX2_reckonDeposits, Cond.instanceMethod yX2_reckonDeposits, Cond.selects RX2 yX2_reckonDeposits yX2_reckonDeposits, Cond.code yX2_reckonDeposits cX2_reckonDeposits 5 none, Cond.fieldLink RX2 35 "FundBook" "balances" "[I", Cond.fieldLink RX2 13 "FundBook" "depositRate" "I", Cond.instanceMethod yX1_averageRate, Cond.initialized RX1, Cond.selects RX1 yX1_averageRate yX1_averageRate, Cond.code yX1_averageRate cX1_averageRate 6 (some .int), Cond.fieldLink RX1 9 "FundBook$Replica" "amounts" "[I", Cond.fieldLink RX1 15 "FundBook$Replica" "rates" "[I", Cond.methodLink RX2 207 yX2_paidForDeposits, Cond.instanceMethod yX2_paidForDeposits, Cond.selects RX2 yX2_paidForDeposits yX2_paidForDeposits, Cond.code yX2_paidForDeposits cX2_paidForDeposits 5 (some .int)]
def wsL_closeMonth_r4 : List Cond := [Cond.methodLink RX2 191 yX2_coreOf, Cond.instanceMethod yX2_coreOf, Cond.selects RX2 yX2_coreOf yX2_coreOf, Cond.code yX2_coreOf cX2_coreOf 3 (some .int), Cond.fieldLink RX2 20 "FundBook" "coreShare" "I", Cond.constantLong RX2 189 (100), Cond.methodLink RX2 211 yX2_forOneMonth, Cond.methodLink RX2 142 yX2_payParts, Cond.instanceMethod yX2_payParts, Cond.selects RX2 yX2_payParts yX2_payParts, Cond.code yX2_payParts cX2_payParts 5 none, Cond.instanceMethod yX0_payPart, Cond.selects RX0 yX0_payPart yX0_payPart, Cond.code yX0_payPart cX0_payPart 1 none, Cond.methodLink RX2 127 yX2_trancheAmount, Cond.instanceMethod yX2_trancheAmount, Cond.selects RX2 yX2_trancheAmount yX2_trancheAmount, Cond.code yX2_trancheAmount cX2_trancheAmount 7 (some .int), Cond.instanceMethod yX1_lay, Cond.selects RX1 yX1_lay yX1_lay, Cond.code yX1_lay cX1_lay 4 none]
def wsL_closeMonth : List Cond := .codeWith yL_closeMonth cL_closeMonth 3 (some .int) [(0, 8, 11, 25)] :: ((wsL_closeMonth_r1 ++ (wsL_closeMonth_r2 ++ (wsL_closeMonth_r3 ++ wsL_closeMonth_r4))) ++ wsX20 ++ wsX00 ++ wsX10 ++ (vx_atS RX2 88 "java/lang/IllegalStateException" ["java/lang/RuntimeException", "java/lang/Exception"]).filter goodWord)
def wsL_left : List Cond := .codeWith yL_left cL_left 4 (some .int) [(0, 9, 12, 13)] :: ([.classLink RL 13 "java/lang/IndexOutOfBoundsException", .methodLink RL 38 yX2_left, .instanceMethod yX2_left, .selects RX2 yX2_left yX2_left, .initialized RX2, .code yX2_left cX2_left 3 (some .int), .classLink RX2 59 "java/lang/IndexOutOfBoundsException", .initialized "java/lang/IndexOutOfBoundsException", .methodLink RX2 101 yX2_findLoan, .instanceMethod yX2_findLoan, .selects RX2 yX2_findLoan yX2_findLoan, .code yX2_findLoan cX2_findLoan 2 (some (.object "FundBook$Loan")), .fieldLink RX2 28 "FundBook" "loanRows" "[LFundBook$Loan;", .instanceMethod yX0_unpaid, .initialized RX0, .selects RX0 yX0_unpaid yX0_unpaid, .code yX0_unpaid cX0_unpaid 3 (some .int), .fieldLink RX0 35 "FundBook$Loan" "paidParts" "I", .fieldLink RX0 28 "FundBook$Loan" "parts" "[I"] ++ wsX20 ++ wsX00 ++ (vx_atS RX2 63 "java/lang/IndexOutOfBoundsException" ["java/lang/RuntimeException", "java/lang/Exception"]).filter goodWord)
def wsL_bears_r1 : List Cond := [Cond.classLink RL 13 "java/lang/IndexOutOfBoundsException", Cond.classLink RL 15 "java/lang/IllegalArgumentException", Cond.methodLink RL 41 yX2_bears, Cond.instanceMethod yX2_bears, Cond.selects RX2 yX2_bears yX2_bears, Cond.initialized RX2, Cond.code yX2_bears cX2_bears 4 (some .int), Cond.classLink RX2 59 "java/lang/IndexOutOfBoundsException", Cond.initialized "java/lang/IndexOutOfBoundsException", Cond.classLink RX2 66 "java/lang/IllegalArgumentException", Cond.initialized "java/lang/IllegalArgumentException", Cond.methodLink RX2 101 yX2_findLoan, Cond.instanceMethod yX2_findLoan, Cond.selects RX2 yX2_findLoan yX2_findLoan, Cond.code yX2_findLoan cX2_findLoan 2 (some (.object "FundBook$Loan")), Cond.fieldLink RX2 28 "FundBook" "loanRows" "[LFundBook$Loan;", Cond.instanceMethod yX0_customerInterest, Cond.initialized RX0, Cond.selects RX0 yX0_customerInterest yX0_customerInterest, Cond.code yX0_customerInterest cX0_customerInterest 1 (some .int), Cond.fieldLink RX0 18 "FundBook$Loan" "rate" "I", Cond.methodLink RX0 38 yX0_unpaid, Cond.instanceMethod yX0_unpaid, Cond.selects RX0 yX0_unpaid yX0_unpaid]
def wsL_bears_r2 : List Cond := [Cond.code yX0_unpaid cX0_unpaid 3 (some .int), Cond.fieldLink RX0 35 "FundBook$Loan" "paidParts" "I", Cond.fieldLink RX0 28 "FundBook$Loan" "parts" "[I", Cond.static yX2_forOneMonth, Cond.code yX2_forOneMonth cX2_forOneMonth 2 (some .int), Cond.constantLong RX2 187 (120000), Cond.instanceMethod yX0_funding, Cond.selects RX0 yX0_funding yX0_funding, Cond.code yX0_funding cX0_funding 4 (some .int), Cond.fieldLink RX0 32 "FundBook$Loan" "fundingRates" "[I", Cond.instanceMethod yX0_optionCharge, Cond.selects RX0 yX0_optionCharge yX0_optionCharge, Cond.code yX0_optionCharge cX0_optionCharge 1 (some .int), Cond.fieldLink RX0 25 "FundBook$Loan" "optionRate" "I", Cond.instanceMethod yX0_ownMargin, Cond.selects RX0 yX0_ownMargin yX0_ownMargin, Cond.code yX0_ownMargin cX0_ownMargin 1 (some .int), Cond.methodLink RX0 46 yX0_customerInterest, Cond.methodLink RX0 49 yX0_funding, Cond.methodLink RX0 52 yX0_optionCharge]
def wsL_bears : List Cond := .codeWith yL_bears cL_bears 5 (some .int) [(0, 10, 13, 13), (0, 10, 17, 15)] :: ((wsL_bears_r1 ++ wsL_bears_r2) ++ wsX20 ++ wsX00 ++ (vx_atS RX2 63 "java/lang/IndexOutOfBoundsException" ["java/lang/RuntimeException", "java/lang/Exception"]).filter goodWord ++ (vx_atS RX2 70 "java/lang/IllegalArgumentException" ["java/lang/RuntimeException", "java/lang/Exception"]).filter goodWord)
def wsL_due : List Cond := .codeWith yL_due cL_due 4 (some .int) [(0, 9, 12, 15)] :: ([.classLink RL 15 "java/lang/IllegalArgumentException", .methodLink RL 44 yX2_due, .instanceMethod yX2_due, .selects RX2 yX2_due yX2_due, .initialized RX2, .code yX2_due cX2_due 7 (some .int), .classLink RX2 66 "java/lang/IllegalArgumentException", .initialized "java/lang/IllegalArgumentException", .fieldLink RX2 28 "FundBook" "loanRows" "[LFundBook$Loan;", .instanceMethod yX0_partAhead, .initialized RX0, .selects RX0 yX0_partAhead yX0_partAhead, .code yX0_partAhead cX0_partAhead 3 (some .int), .fieldLink RX0 35 "FundBook$Loan" "paidParts" "I", .fieldLink RX0 28 "FundBook$Loan" "parts" "[I"] ++ wsX20 ++ wsX00 ++ (vx_atS RX2 70 "java/lang/IllegalArgumentException" ["java/lang/RuntimeException", "java/lang/Exception"]).filter goodWord)
def wsL_balance : List Cond := .codeWith yL_balance cL_balance 4 (some .int) [(0, 9, 12, 13)] :: ([.classLink RL 13 "java/lang/IndexOutOfBoundsException", .methodLink RL 47 yX2_balance, .instanceMethod yX2_balance, .selects RX2 yX2_balance yX2_balance, .initialized RX2, .code yX2_balance cX2_balance 2 (some .int), .classLink RX2 59 "java/lang/IndexOutOfBoundsException", .initialized "java/lang/IndexOutOfBoundsException", .fieldLink RX2 35 "FundBook" "balances" "[I"] ++ wsX20 ++ (vx_atS RX2 63 "java/lang/IndexOutOfBoundsException" ["java/lang/RuntimeException", "java/lang/Exception"]).filter goodWord)
def wsL_tranche : List Cond := .codeWith yL_tranche cL_tranche 4 (some .int) [(0, 9, 12, 13)] :: ([.classLink RL 13 "java/lang/IndexOutOfBoundsException", .methodLink RL 50 yX2_tranche, .instanceMethod yX2_tranche, .selects RX2 yX2_tranche yX2_tranche, .initialized RX2, .code yX2_tranche cX2_tranche 2 (some .int), .classLink RX2 59 "java/lang/IndexOutOfBoundsException", .initialized "java/lang/IndexOutOfBoundsException", .fieldLink RX2 41 "FundBook" "replica" "LFundBook$Replica;"] ++ wsX20 ++ wsX10 ++ (vx_atS RX2 63 "java/lang/IndexOutOfBoundsException" ["java/lang/RuntimeException", "java/lang/Exception"]).filter goodWord)
def wsL_margin : List Cond := .codeWith yL_margin cL_margin 5 (some .int) [(0, 10, 13, 13)] :: ([.classLink RL 13 "java/lang/IndexOutOfBoundsException", .methodLink RL 53 yX2_margin, .instanceMethod yX2_margin, .selects RX2 yX2_margin yX2_margin, .initialized RX2, .code yX2_margin cX2_margin 3 (some .int), .classLink RX2 59 "java/lang/IndexOutOfBoundsException", .initialized "java/lang/IndexOutOfBoundsException", .fieldLink RX2 47 "FundBook" "branchMargins" "[[I", .methodLink RX2 177 yX2_hasEnded, .instanceMethod yX2_hasEnded, .selects RX2 yX2_hasEnded yX2_hasEnded, .code yX2_hasEnded cX2_hasEnded 2 (some .boolean), .fieldLink RX2 23 "FundBook" "now" "I"] ++ wsX20 ++ (vx_atS RX2 63 "java/lang/IndexOutOfBoundsException" ["java/lang/RuntimeException", "java/lang/Exception"]).filter goodWord)
def wsL_byProduct : List Cond := .codeWith yL_byProduct cL_byProduct 5 (some .int) [(0, 10, 13, 13)] :: ([.classLink RL 13 "java/lang/IndexOutOfBoundsException", .methodLink RL 56 yX2_byProduct, .instanceMethod yX2_byProduct, .selects RX2 yX2_byProduct yX2_byProduct, .initialized RX2, .code yX2_byProduct cX2_byProduct 3 (some .int), .classLink RX2 59 "java/lang/IndexOutOfBoundsException", .initialized "java/lang/IndexOutOfBoundsException", .fieldLink RX2 50 "FundBook" "productMargins" "[[I", .methodLink RX2 177 yX2_hasEnded, .instanceMethod yX2_hasEnded, .selects RX2 yX2_hasEnded yX2_hasEnded, .code yX2_hasEnded cX2_hasEnded 2 (some .boolean), .fieldLink RX2 23 "FundBook" "now" "I"] ++ wsX20 ++ (vx_atS RX2 63 "java/lang/IndexOutOfBoundsException" ["java/lang/RuntimeException", "java/lang/Exception"]).filter goodWord)
def wsL_treasury : List Cond := .codeWith yL_treasury cL_treasury 4 (some .int) [(0, 9, 12, 13)] :: ([.classLink RL 13 "java/lang/IndexOutOfBoundsException", .methodLink RL 59 yX2_treasury, .instanceMethod yX2_treasury, .selects RX2 yX2_treasury yX2_treasury, .initialized RX2, .code yX2_treasury cX2_treasury 2 (some .int), .classLink RX2 59 "java/lang/IndexOutOfBoundsException", .initialized "java/lang/IndexOutOfBoundsException", .fieldLink RX2 53 "FundBook" "treasuryMargins" "[I", .methodLink RX2 177 yX2_hasEnded, .instanceMethod yX2_hasEnded, .selects RX2 yX2_hasEnded yX2_hasEnded, .code yX2_hasEnded cX2_hasEnded 2 (some .boolean), .fieldLink RX2 23 "FundBook" "now" "I"] ++ wsX20 ++ (vx_atS RX2 63 "java/lang/IndexOutOfBoundsException" ["java/lang/RuntimeException", "java/lang/Exception"]).filter goodWord)
def wsL_interest : List Cond := .codeWith yL_interest cL_interest 4 (some .int) [(0, 9, 12, 13)] :: ([.classLink RL 13 "java/lang/IndexOutOfBoundsException", .methodLink RL 62 yX2_interest, .instanceMethod yX2_interest, .selects RX2 yX2_interest yX2_interest, .initialized RX2, .code yX2_interest cX2_interest 2 (some .int), .classLink RX2 59 "java/lang/IndexOutOfBoundsException", .initialized "java/lang/IndexOutOfBoundsException", .fieldLink RX2 56 "FundBook" "bankInterests" "[I", .methodLink RX2 177 yX2_hasEnded, .instanceMethod yX2_hasEnded, .selects RX2 yX2_hasEnded yX2_hasEnded, .code yX2_hasEnded cX2_hasEnded 2 (some .boolean), .fieldLink RX2 23 "FundBook" "now" "I"] ++ wsX20 ++ (vx_atS RX2 63 "java/lang/IndexOutOfBoundsException" ["java/lang/RuntimeException", "java/lang/Exception"]).filter goodWord)
def wsL_law0_r1 : List Cond := [Cond.classLink RL 8 RX2, Cond.instantiable RX2 13, Cond.initialized RX2, Cond.classLink RL 66 RX3, Cond.instantiable RX3 22, Cond.initialized RX3, Cond.arrayClass .long, Cond.methodLink RL 65 yX2_init, Cond.instanceMethod yX2_init, Cond.code yX2_init cX2_init 1 none, Cond.methodLink RX2 1 objectInit, Cond.instanceMethod objectInit, Cond.code objectInit ⟨#[0xb1]⟩ 1 none, Cond.arrayClass .int, Cond.fieldLink RX2 9 "FundBook" "curve" "[I", Cond.fieldLink RX2 13 "FundBook" "depositRate" "I", Cond.fieldLink RX2 17 "FundBook" "optionRate" "I", Cond.fieldLink RX2 20 "FundBook" "coreShare" "I", Cond.fieldLink RX2 23 "FundBook" "now" "I", Cond.classLink RX2 26 RX0, Cond.fieldLink RX2 28 "FundBook" "loanRows" "[LFundBook$Loan;", Cond.fieldLink RX2 32 "FundBook" "loanCount" "I", Cond.fieldLink RX2 35 "FundBook" "balances" "[I", Cond.classLink RX2 38 RX1]
def wsL_law0_r2 : List Cond := [Cond.instantiable RX1 2, Cond.initialized RX1, Cond.fieldLink RX2 41 "FundBook" "replica" "LFundBook$Replica;", Cond.classLink RX2 45 "[[I", Cond.fieldLink RX2 47 "FundBook" "branchMargins" "[[I", Cond.fieldLink RX2 50 "FundBook" "productMargins" "[[I", Cond.fieldLink RX2 53 "FundBook" "treasuryMargins" "[I", Cond.fieldLink RX2 56 "FundBook" "bankInterests" "[I", Cond.instanceMethod yX1_init, Cond.code yX1_init cX1_init 1 none, Cond.methodLink RX1 3 objectInit, Cond.fieldLink RX1 9 "FundBook$Replica" "amounts" "[I", Cond.fieldLink RX1 15 "FundBook$Replica" "rates" "[I", Cond.methodLink RL 68 yX3_init, Cond.instanceMethod yX3_init, Cond.code yX3_init cX3_init 1 none, Cond.methodLink RX3 1 objectInit, Cond.fieldLink RX3 7 "FundBookModel" "curve" "[I", Cond.fieldLink RX3 13 "FundBookModel" "share" "I", Cond.fieldLink RX3 17 "FundBookModel" "branch" "[I", Cond.fieldLink RX3 20 "FundBookModel" "product" "[I", Cond.fieldLink RX3 23 "FundBookModel" "customers" "[I", Cond.fieldLink RX3 26 "FundBookModel" "option" "[I", Cond.arrayClass .boolean]
def wsL_law0_r3 : List Cond := [Cond.fieldLink RX3 29 "FundBookModel" "hasOption" "[Z", Cond.fieldLink RX3 33 "FundBookModel" "born" "[I", Cond.fieldLink RX3 36 "FundBookModel" "part" "[I", Cond.fieldLink RX3 39 "FundBookModel" "funded" "[I", Cond.fieldLink RX3 42 "FundBookModel" "balance" "[I", Cond.fieldLink RX3 45 "FundBookModel" "tranche" "[I", Cond.fieldLink RX3 48 "FundBookModel" "laidAt" "[I", Cond.fieldLink RX3 51 "FundBookModel" "margins" "[I", Cond.fieldLink RX3 54 "FundBookModel" "products" "[I", Cond.fieldLink RX3 57 "FundBookModel" "treasuries" "[I", Cond.fieldLink RX3 60 "FundBookModel" "interests" "[I", Cond.methodLink RL 69 yL_setCurve, Cond.static yL_setCurve, Cond.initialized RL, Cond.codeWith yL_setCurve cL_setCurve 5 (some .int) [(0, 10, 13, 13), (0, 10, 17, 15)], Cond.classLink RL 13 "java/lang/IndexOutOfBoundsException", Cond.classLink RL 15 "java/lang/IllegalArgumentException", Cond.methodLink RL 7 yX2_setCurve, Cond.instanceMethod yX2_setCurve, Cond.selects RX2 yX2_setCurve yX2_setCurve, Cond.code yX2_setCurve cX2_setCurve 4 (some .int), Cond.classLink RX2 59 "java/lang/IndexOutOfBoundsException", Cond.initialized "java/lang/IndexOutOfBoundsException", Cond.classLink RX2 66 "java/lang/IllegalArgumentException"]
def wsL_law0_r4 : List Cond := [Cond.initialized "java/lang/IllegalArgumentException", Cond.methodLink RL 74 yX3_setCurve, Cond.instanceMethod yX3_setCurve, Cond.selects RX3 yX3_setCurve yX3_setCurve, Cond.code yX3_setCurve cX3_setCurve 4 (some .int), Cond.fieldLink RX3 63 "FundBookModel" "thrown" "I", Cond.methodLink RX3 69 yX3_in, Cond.static yX3_in, Cond.code yX3_in cX3_in 3 (some .boolean), Cond.methodLink RX3 76 yX3_fails, Cond.instanceMethod yX3_fails, Cond.selects RX3 yX3_fails yX3_fails, Cond.code yX3_fails cX3_fails 2 (some .int), Cond.methodLink RL 75 yX3_thrown, Cond.instanceMethod yX3_thrown, Cond.selects RX3 yX3_thrown yX3_thrown, Cond.code yX3_thrown cX3_thrown 1 (some .int), Cond.methodLink RL 78 yL_setRates, Cond.static yL_setRates, Cond.codeWith yL_setRates cL_setRates 5 (some .int) [(0, 7, 10, 15)], Cond.methodLink RL 17 yX2_setRates, Cond.instanceMethod yX2_setRates, Cond.selects RX2 yX2_setRates yX2_setRates, Cond.code yX2_setRates cX2_setRates 4 none]
def wsL_law0_r5 : List Cond := [Cond.methodLink RL 81 yX3_setRates, Cond.instanceMethod yX3_setRates, Cond.selects RX3 yX3_setRates yX3_setRates, Cond.code yX3_setRates cX3_setRates 4 none, Cond.fieldLink RX3 80 "FundBookModel" "depositRate" "I", Cond.fieldLink RX3 83 "FundBookModel" "optionRate" "I", Cond.methodLink RL 82 yL_lend, Cond.static yL_lend, Cond.codeWith yL_lend cL_lend 9 (some .int) [(0, 18, 21, 13), (0, 18, 25, 15), (0, 18, 29, 25)], Cond.classLink RL 25 "java/lang/IllegalStateException", Cond.methodLink RL 21 yX2_lend, Cond.instanceMethod yX2_lend, Cond.selects RX2 yX2_lend yX2_lend, Cond.code yX2_lend cX2_lend 10 (some .int), Cond.classLink RX2 84 "java/lang/IllegalStateException", Cond.initialized "java/lang/IllegalStateException", Cond.constant RX2 79 (10000000), Cond.instantiable RX0 8, Cond.initialized RX0, Cond.methodLink RX2 93 ⟨"[I", "clone", "()Ljava/lang/Object;"⟩, Cond.sameMethod "[I" "java/lang/Object" "clone" "()Ljava/lang/Object;", Cond.native ⟨"java/lang/Object", "clone", "()Ljava/lang/Object;"⟩, Cond.instanceMethod ⟨"java/lang/Object", "clone", "()Ljava/lang/Object;"⟩, Cond.selects "[I" ⟨"[I", "clone", "()Ljava/lang/Object;"⟩ ⟨"java/lang/Object", "clone", "()Ljava/lang/Object;"⟩]
def wsL_law0_r6 : List Cond := [Cond.classLink RX2 94 "[I", Cond.methodLink RX2 89 yX2_cutIntoParts, Cond.static yX2_cutIntoParts, Cond.code yX2_cutIntoParts cX2_cutIntoParts 5 (some (.array .int)), Cond.instanceMethod yX0_init, Cond.code yX0_init cX0_init 8 none, Cond.methodLink RX0 3 objectInit, Cond.fieldLink RX0 9 "FundBook$Loan" "branch" "I", Cond.fieldLink RX0 15 "FundBook$Loan" "product" "I", Cond.fieldLink RX0 18 "FundBook$Loan" "rate" "I", Cond.fieldLink RX0 21 "FundBook$Loan" "hasOption" "Z", Cond.fieldLink RX0 25 "FundBook$Loan" "optionRate" "I", Cond.fieldLink RX0 28 "FundBook$Loan" "parts" "[I", Cond.fieldLink RX0 32 "FundBook$Loan" "fundingRates" "[I", Cond.fieldLink RX0 35 "FundBook$Loan" "paidParts" "I", Cond.methodLink RL 85 yX3_lend, Cond.instanceMethod yX3_lend, Cond.selects RX3 yX3_lend yX3_lend, Cond.code yX3_lend cX3_lend 8 (some .int), Cond.constant RX3 95 (10000000), Cond.fieldLink RX3 66 "FundBookModel" "loans" "I", Cond.fieldLink RX3 73 "FundBookModel" "now" "I", Cond.methodLink RX3 91 yX3_isBranch, Cond.static yX3_isBranch]
def wsL_law0_r7 : List Cond := [Cond.code yX3_isBranch cX3_isBranch 1 (some .boolean), Cond.methodLink RL 86 yL_repay, Cond.static yL_repay, Cond.codeWith yL_repay cL_repay 4 (some .int) [(0, 9, 12, 13), (0, 9, 15, 25)], Cond.methodLink RL 27 yX2_repay, Cond.instanceMethod yX2_repay, Cond.selects RX2 yX2_repay yX2_repay, Cond.code yX2_repay cX2_repay 4 (some .int), Cond.methodLink RX2 101 yX2_findLoan, Cond.instanceMethod yX2_findLoan, Cond.selects RX2 yX2_findLoan yX2_findLoan, Cond.code yX2_findLoan cX2_findLoan 2 (some (.object "FundBook$Loan")), Cond.instanceMethod yX0_unpaid, Cond.selects RX0 yX0_unpaid yX0_unpaid, Cond.code yX0_unpaid cX0_unpaid 3 (some .int), Cond.instanceMethod yX0_settle, Cond.selects RX0 yX0_settle yX0_settle, Cond.code yX0_settle cX0_settle 1 none, Cond.methodLink RL 89 yX3_repay, Cond.instanceMethod yX3_repay, Cond.selects RX3 yX3_repay yX3_repay, Cond.code yX3_repay cX3_repay 4 (some .int), Cond.methodLink RX3 96 yX3_isLoan, Cond.instanceMethod yX3_isLoan]
def wsL_law0_r8 : List Cond := [Cond.selects RX3 yX3_isLoan yX3_isLoan, Cond.code yX3_isLoan cX3_isLoan 2 (some .boolean), Cond.methodLink RX3 86 yX3_leftOf, Cond.instanceMethod yX3_leftOf, Cond.selects RX3 yX3_leftOf yX3_leftOf, Cond.code yX3_leftOf cX3_leftOf 4 (some .int), Cond.methodLink RL 90 yL_deposit, Cond.static yL_deposit, Cond.codeWith yL_deposit cL_deposit 5 (some .int) [(0, 10, 13, 13), (0, 10, 17, 15), (0, 10, 21, 25)], Cond.methodLink RL 31 yX2_deposit, Cond.instanceMethod yX2_deposit, Cond.selects RX2 yX2_deposit yX2_deposit, Cond.code yX2_deposit cX2_deposit 4 (some .int), Cond.constant RX2 122 (-10000000), Cond.methodLink RX2 127 yX2_trancheAmount, Cond.instanceMethod yX2_trancheAmount, Cond.selects RX2 yX2_trancheAmount yX2_trancheAmount, Cond.code yX2_trancheAmount cX2_trancheAmount 7 (some .int), Cond.methodLink RX2 191 yX2_coreOf, Cond.instanceMethod yX2_coreOf, Cond.selects RX2 yX2_coreOf yX2_coreOf, Cond.code yX2_coreOf cX2_coreOf 3 (some .int), Cond.constantLong RX2 189 (100), Cond.instanceMethod yX1_layAll]
def wsL_law0_r9 : List Cond := [Cond.selects RX1 yX1_layAll yX1_layAll, Cond.code yX1_layAll cX1_layAll 4 none, Cond.methodLink RX1 18 yX1_lay, Cond.instanceMethod yX1_lay, Cond.selects RX1 yX1_lay yX1_lay, Cond.code yX1_lay cX1_lay 4 none, Cond.methodLink RL 92 yX3_deposit, Cond.instanceMethod yX3_deposit, Cond.selects RX3 yX3_deposit yX3_deposit, Cond.code yX3_deposit cX3_deposit 4 (some .int), Cond.constant RX3 105 (-10000000), Cond.methodLink RX3 106 yX3_lays, Cond.instanceMethod yX3_lays, Cond.selects RX3 yX3_lays yX3_lays, Cond.code yX3_lays cX3_lays 2 none, Cond.methodLink RX3 101 yX3_core, Cond.instanceMethod yX3_core, Cond.selects RX3 yX3_core yX3_core, Cond.code yX3_core cX3_core 4 (some .int), Cond.constantLong RX3 99 (100), Cond.methodLink RL 93 yL_closeMonth, Cond.static yL_closeMonth, Cond.codeWith yL_closeMonth cL_closeMonth 3 (some .int) [(0, 8, 11, 25)], Cond.methodLink RL 34 yX2_closeMonth]
def wsL_law0_r10 : List Cond := [Cond.instanceMethod yX2_closeMonth, Cond.selects RX2 yX2_closeMonth yX2_closeMonth, Cond.code yX2_closeMonth cX2_closeMonth 1 (some .int), Cond.methodLink RX2 136 yX2_reckonLoans, Cond.instanceMethod yX2_reckonLoans, Cond.selects RX2 yX2_reckonLoans yX2_reckonLoans, Cond.code yX2_reckonLoans cX2_reckonLoans 7 none, Cond.methodLink RX2 195 yX2_loanMarginsOfBranch, Cond.instanceMethod yX2_loanMarginsOfBranch, Cond.selects RX2 yX2_loanMarginsOfBranch yX2_loanMarginsOfBranch, Cond.code yX2_loanMarginsOfBranch cX2_loanMarginsOfBranch 7 (some .int), Cond.instanceMethod yX0_ownMargin, Cond.selects RX0 yX0_ownMargin yX0_ownMargin, Cond.code yX0_ownMargin cX0_ownMargin 1 (some .int), Cond.methodLink RX0 46 yX0_customerInterest, Cond.instanceMethod yX0_customerInterest, Cond.selects RX0 yX0_customerInterest yX0_customerInterest, Cond.code yX0_customerInterest cX0_customerInterest 1 (some .int), Cond.methodLink RX0 38 yX0_unpaid, Cond.static yX2_forOneMonth, Cond.code yX2_forOneMonth cX2_forOneMonth 2 (some .int), Cond.constantLong RX2 187 (120000), Cond.methodLink RX0 49 yX0_funding, Cond.instanceMethod yX0_funding]
def wsL_law0_r11 : List Cond := [Cond.selects RX0 yX0_funding yX0_funding, Cond.code yX0_funding cX0_funding 4 (some .int), Cond.methodLink RX0 52 yX0_optionCharge, Cond.instanceMethod yX0_optionCharge, Cond.selects RX0 yX0_optionCharge yX0_optionCharge, Cond.code yX0_optionCharge cX0_optionCharge 1 (some .int), Cond.methodLink RX2 198 yX2_loanMarginsOfProduct, Cond.instanceMethod yX2_loanMarginsOfProduct, Cond.selects RX2 yX2_loanMarginsOfProduct yX2_loanMarginsOfProduct, Cond.code yX2_loanMarginsOfProduct cX2_loanMarginsOfProduct 7 (some .int), Cond.methodLink RX2 139 yX2_reckonDeposits, Cond.instanceMethod yX2_reckonDeposits, Cond.selects RX2 yX2_reckonDeposits yX2_reckonDeposits, Cond.code yX2_reckonDeposits cX2_reckonDeposits 5 none, Cond.instanceMethod yX1_averageRate, Cond.selects RX1 yX1_averageRate yX1_averageRate, Cond.code yX1_averageRate cX1_averageRate 6 (some .int), Cond.methodLink RX2 207 yX2_paidForDeposits, Cond.instanceMethod yX2_paidForDeposits, Cond.selects RX2 yX2_paidForDeposits yX2_paidForDeposits, Cond.code yX2_paidForDeposits cX2_paidForDeposits 5 (some .int), Cond.methodLink RX2 211 yX2_forOneMonth, Cond.methodLink RX2 142 yX2_payParts, Cond.instanceMethod yX2_payParts]
def wsL_law0_r12 : List Cond := [Cond.selects RX2 yX2_payParts yX2_payParts, Cond.code yX2_payParts cX2_payParts 5 none, Cond.instanceMethod yX0_payPart, Cond.selects RX0 yX0_payPart yX0_payPart, Cond.code yX0_payPart cX0_payPart 1 none, Cond.methodLink RL 96 yX3_closeMonth, Cond.instanceMethod yX3_closeMonth, Cond.selects RX3 yX3_closeMonth yX3_closeMonth, Cond.code yX3_closeMonth cX3_closeMonth 4 (some .int), Cond.methodLink RX3 113 yX3_bear, Cond.instanceMethod yX3_bear, Cond.selects RX3 yX3_bear yX3_bear, Cond.code yX3_bear cX3_bear 10 (some .int), Cond.constantLong RX3 89 (120000), Cond.methodLink RX3 117 yX3_isPaid, Cond.instanceMethod yX3_isPaid, Cond.selects RX3 yX3_isPaid yX3_isPaid, Cond.code yX3_isPaid cX3_isPaid 4 (some .int), Cond.methodLink RX3 110 yX3_replica, Cond.instanceMethod yX3_replica, Cond.selects RX3 yX3_replica yX3_replica, Cond.code yX3_replica cX3_replica 6 (some .int), Cond.methodLink RX3 120 yX3_pays, Cond.instanceMethod yX3_pays]
def wsL_law0_r13 : List Cond := [Cond.selects RX3 yX3_pays yX3_pays, Cond.code yX3_pays cX3_pays 2 (some .int), Cond.methodLink RL 97 yX2_month, Cond.instanceMethod yX2_month, Cond.selects RX2 yX2_month yX2_month, Cond.code yX2_month cX2_month 1 (some .int), Cond.methodLink RL 100 yX3_month, Cond.instanceMethod yX3_month, Cond.selects RX3 yX3_month yX3_month, Cond.code yX3_month cX3_month 1 (some .int), Cond.methodLink RL 101 yX2_loans, Cond.instanceMethod yX2_loans, Cond.selects RX2 yX2_loans yX2_loans, Cond.code yX2_loans cX2_loans 1 (some .int), Cond.methodLink RL 104 yX3_loans, Cond.instanceMethod yX3_loans, Cond.selects RX3 yX3_loans yX3_loans, Cond.code yX3_loans cX3_loans 1 (some .int), Cond.methodLink RL 105 yL_left, Cond.static yL_left, Cond.codeWith yL_left cL_left 4 (some .int) [(0, 9, 12, 13)], Cond.methodLink RL 38 yX2_left, Cond.instanceMethod yX2_left, Cond.selects RX2 yX2_left yX2_left]
def wsL_law0_r14 : List Cond := [Cond.code yX2_left cX2_left 3 (some .int), Cond.methodLink RL 107 yX3_left, Cond.instanceMethod yX3_left, Cond.selects RX3 yX3_left yX3_left, Cond.code yX3_left cX3_left 2 (some .int), Cond.methodLink RL 108 yL_bears, Cond.static yL_bears, Cond.codeWith yL_bears cL_bears 5 (some .int) [(0, 10, 13, 13), (0, 10, 17, 15)], Cond.methodLink RL 41 yX2_bears, Cond.instanceMethod yX2_bears, Cond.selects RX2 yX2_bears yX2_bears, Cond.code yX2_bears cX2_bears 4 (some .int), Cond.methodLink RL 110 yX3_bears, Cond.instanceMethod yX3_bears, Cond.selects RX3 yX3_bears yX3_bears, Cond.code yX3_bears cX3_bears 3 (some .int), Cond.methodLink RL 111 yL_due, Cond.static yL_due, Cond.codeWith yL_due cL_due 4 (some .int) [(0, 9, 12, 15)], Cond.methodLink RL 44 yX2_due, Cond.instanceMethod yX2_due, Cond.selects RX2 yX2_due yX2_due, Cond.code yX2_due cX2_due 7 (some .int), Cond.instanceMethod yX0_partAhead]
def wsL_law0_r15 : List Cond := [Cond.selects RX0 yX0_partAhead yX0_partAhead, Cond.code yX0_partAhead cX0_partAhead 3 (some .int), Cond.methodLink RL 113 yX3_due, Cond.instanceMethod yX3_due, Cond.selects RX3 yX3_due yX3_due, Cond.code yX3_due cX3_due 5 (some .int), Cond.methodLink RL 114 yL_balance, Cond.static yL_balance, Cond.codeWith yL_balance cL_balance 4 (some .int) [(0, 9, 12, 13)], Cond.methodLink RL 47 yX2_balance, Cond.instanceMethod yX2_balance, Cond.selects RX2 yX2_balance yX2_balance, Cond.code yX2_balance cX2_balance 2 (some .int), Cond.methodLink RL 116 yX3_balance, Cond.instanceMethod yX3_balance, Cond.selects RX3 yX3_balance yX3_balance, Cond.code yX3_balance cX3_balance 2 (some .int), Cond.methodLink RL 117 yL_tranche, Cond.static yL_tranche, Cond.codeWith yL_tranche cL_tranche 4 (some .int) [(0, 9, 12, 13)], Cond.methodLink RL 50 yX2_tranche, Cond.instanceMethod yX2_tranche, Cond.selects RX2 yX2_tranche yX2_tranche, Cond.code yX2_tranche cX2_tranche 2 (some .int)]
def wsL_law0_r16 : List Cond := [Cond.methodLink RL 119 yX3_tranche, Cond.instanceMethod yX3_tranche, Cond.selects RX3 yX3_tranche yX3_tranche, Cond.code yX3_tranche cX3_tranche 2 (some .int), Cond.methodLink RL 120 yX2_replicaRate, Cond.instanceMethod yX2_replicaRate, Cond.selects RX2 yX2_replicaRate yX2_replicaRate, Cond.code yX2_replicaRate cX2_replicaRate 1 (some .int), Cond.methodLink RL 123 yX3_replicaRate, Cond.instanceMethod yX3_replicaRate, Cond.selects RX3 yX3_replicaRate yX3_replicaRate, Cond.code yX3_replicaRate cX3_replicaRate 1 (some .int), Cond.methodLink RL 124 yL_margin, Cond.static yL_margin, Cond.codeWith yL_margin cL_margin 5 (some .int) [(0, 10, 13, 13)], Cond.methodLink RL 53 yX2_margin, Cond.instanceMethod yX2_margin, Cond.selects RX2 yX2_margin yX2_margin, Cond.code yX2_margin cX2_margin 3 (some .int), Cond.methodLink RX2 177 yX2_hasEnded, Cond.instanceMethod yX2_hasEnded, Cond.selects RX2 yX2_hasEnded yX2_hasEnded, Cond.code yX2_hasEnded cX2_hasEnded 2 (some .boolean), Cond.methodLink RL 126 yX3_margin]
def wsL_law0_r17 : List Cond := [Cond.instanceMethod yX3_margin, Cond.selects RX3 yX3_margin yX3_margin, Cond.code yX3_margin cX3_margin 3 (some .int), Cond.methodLink RX3 123 yX3_isEnded, Cond.instanceMethod yX3_isEnded, Cond.selects RX3 yX3_isEnded yX3_isEnded, Cond.code yX3_isEnded cX3_isEnded 2 (some .boolean), Cond.methodLink RL 127 yL_byProduct, Cond.static yL_byProduct, Cond.codeWith yL_byProduct cL_byProduct 5 (some .int) [(0, 10, 13, 13)], Cond.methodLink RL 56 yX2_byProduct, Cond.instanceMethod yX2_byProduct, Cond.selects RX2 yX2_byProduct yX2_byProduct, Cond.code yX2_byProduct cX2_byProduct 3 (some .int), Cond.methodLink RL 129 yX3_byProduct, Cond.instanceMethod yX3_byProduct, Cond.selects RX3 yX3_byProduct yX3_byProduct, Cond.code yX3_byProduct cX3_byProduct 3 (some .int), Cond.methodLink RL 130 yL_treasury, Cond.static yL_treasury, Cond.codeWith yL_treasury cL_treasury 4 (some .int) [(0, 9, 12, 13)], Cond.methodLink RL 59 yX2_treasury, Cond.instanceMethod yX2_treasury, Cond.selects RX2 yX2_treasury yX2_treasury]
def wsL_law0_r18 : List Cond := [Cond.code yX2_treasury cX2_treasury 2 (some .int), Cond.methodLink RL 132 yX3_treasury, Cond.instanceMethod yX3_treasury, Cond.selects RX3 yX3_treasury yX3_treasury, Cond.code yX3_treasury cX3_treasury 2 (some .int), Cond.methodLink RL 133 yL_interest, Cond.static yL_interest, Cond.codeWith yL_interest cL_interest 4 (some .int) [(0, 9, 12, 13)], Cond.methodLink RL 62 yX2_interest, Cond.instanceMethod yX2_interest, Cond.selects RX2 yX2_interest yX2_interest, Cond.code yX2_interest cX2_interest 2 (some .int), Cond.methodLink RL 135 yX3_interest, Cond.instanceMethod yX3_interest, Cond.selects RX3 yX3_interest yX3_interest, Cond.code yX3_interest cX3_interest 2 (some .int)]
def wsL_law0 : List Cond := (wsL_law0_r1 ++ (wsL_law0_r2 ++ (wsL_law0_r3 ++ (wsL_law0_r4 ++ (wsL_law0_r5 ++ (wsL_law0_r6 ++ (wsL_law0_r7 ++ (wsL_law0_r8 ++ (wsL_law0_r9 ++ (wsL_law0_r10 ++ (wsL_law0_r11 ++ (wsL_law0_r12 ++ (wsL_law0_r13 ++ (wsL_law0_r14 ++ (wsL_law0_r15 ++ (wsL_law0_r16 ++ (wsL_law0_r17 ++ wsL_law0_r18))))))))))))))))) ++ wsX20 ++ wsX30 ++ wsX10 ++ wsX00 ++ ([] : List Cond)
def wsL_law : List Cond := wsL_law0 ++ (vx_atS RX2 63 "java/lang/IndexOutOfBoundsException" ["java/lang/RuntimeException", "java/lang/Exception"]).filter goodWord ++ (vx_atS RX2 70 "java/lang/IllegalArgumentException" ["java/lang/RuntimeException", "java/lang/Exception"]).filter goodWord ++ (vx_atS RX2 88 "java/lang/IllegalStateException" ["java/lang/RuntimeException", "java/lang/Exception"]).filter goodWord
abbrev vwCl : List vw_C := [(RX0, TX0, 8), (RX1, TX1, 2), (RX2, TX2, 13), (RX3, TX3, 22)]
end
section
theorem mem_pl {big : List Cond} (ws : List Cond) (ps : List Nat) (hp : ws = ps.filterMap (fun i => big[i]?)) : ∀ w ∈ ws, w ∈ big := by
  intro w hw
  rw [hp] at hw
  obtain ⟨i, -, hi⟩ := List.mem_filterMap.mp hw
  exact List.mem_of_getElem? hi
set_option maxRecDepth 100000 in
theorem in_wsL_law0_r1 : ∀ w ∈ wsL_law0_r1, w ∈ lw_tbl := mem_pl _ [43, 44, 33, 488, 489, 35, 688, 45, 46, 47, 48, 49, 50, 67, 70, 71, 72, 73, 74, 51, 75, 76, 77, 53] (by rfl)
set_option maxRecDepth 100000 in
theorem in_wsL_law0_r2 : ∀ w ∈ wsL_law0_r2, w ∈ lw_tbl := mem_pl _ [54, 34, 78, 68, 79, 80, 81, 82, 56, 57, 58, 59, 61, 490, 491, 492, 493, 496, 499, 501, 502, 503, 504, 561] (by rfl)
set_option maxRecDepth 100000 in
theorem in_wsL_law0_r3 : ∀ w ∈ wsL_law0_r3, w ∈ lw_tbl := mem_pl _ [505, 506, 507, 508, 509, 510, 511, 512, 513, 514, 515, 126, 127, 32, 128, 129, 130, 131, 132, 133, 134, 135, 39, 203] (by rfl)
set_option maxRecDepth 100000 in
theorem in_wsL_law0_r4 : ∀ w ∈ wsL_law0_r4, w ∈ lw_tbl := mem_pl _ [40, 566, 567, 568, 569, 494, 570, 571, 572, 573, 575, 22, 576, 562, 563, 564, 565, 219, 220, 221, 222, 223, 224, 225] (by rfl)
set_option maxRecDepth 100000 in
theorem in_wsL_law0_r5 : ∀ w ∈ wsL_law0_r5, w ∈ lw_tbl := mem_pl _ [577, 578, 579, 580, 497, 498, 229, 230, 231, 232, 233, 234, 235, 236, 241, 41, 238, 260, 42, 261, 262, 263, 264, 265] (by rfl)
set_option maxRecDepth 100000 in
theorem in_wsL_law0_r6 : ∀ w ∈ wsL_law0_r6, w ∈ lw_tbl := mem_pl _ [267, 257, 258, 259, 269, 270, 271, 272, 274, 276, 277, 279, 280, 281, 282, 581, 582, 583, 584, 588, 500, 495, 585, 586] (by rfl)
set_option maxRecDepth 100000 in
theorem in_wsL_law0_r7 : ∀ w ∈ wsL_law0_r7, w ∈ lw_tbl := mem_pl _ [587, 300, 301, 302, 303, 304, 305, 306, 307, 309, 2, 310, 314, 3, 315, 319, 4, 320, 589, 590, 591, 592, 593, 595] (by rfl)
set_option maxRecDepth 100000 in
theorem in_wsL_law0_r8 : ∀ w ∈ wsL_law0_r8, w ∈ lw_tbl := mem_pl _ [23, 596, 597, 599, 24, 600, 321, 322, 323, 324, 325, 326, 327, 329, 332, 334, 5, 335, 336, 338, 6, 339, 340, 343] (by rfl)
set_option maxRecDepth 100000 in
theorem in_wsL_law0_r9 : ∀ w ∈ wsL_law0_r9, w ∈ lw_tbl := mem_pl _ [7, 344, 345, 347, 8, 348, 601, 602, 603, 604, 605, 606, 608, 25, 609, 610, 612, 26, 613, 614, 349, 350, 351, 352] (by rfl)
set_option maxRecDepth 100000 in
theorem in_wsL_law0_r10 : ∀ w ∈ wsL_law0_r10, w ∈ lw_tbl := mem_pl _ [353, 354, 355, 357, 359, 9, 360, 361, 363, 10, 364, 367, 11, 368, 369, 371, 12, 372, 373, 375, 376, 377, 378, 380] (by rfl)
set_option maxRecDepth 100000 in
theorem in_wsL_law0_r11 : ∀ w ∈ wsL_law0_r11, w ∈ lw_tbl := mem_pl _ [13, 381, 382, 384, 14, 385, 386, 388, 15, 389, 393, 395, 16, 396, 124, 0, 125, 397, 399, 17, 400, 401, 402, 404] (by rfl)
set_option maxRecDepth 100000 in
theorem in_wsL_law0_r12 : ∀ w ∈ wsL_law0_r12, w ∈ lw_tbl := mem_pl _ [18, 405, 408, 19, 409, 615, 616, 617, 618, 619, 621, 27, 622, 623, 624, 626, 28, 627, 628, 630, 29, 631, 632, 634] (by rfl)
set_option maxRecDepth 100000 in
theorem in_wsL_law0_r13 : ∀ w ∈ wsL_law0_r13, w ∈ lw_tbl := mem_pl _ [30, 635, 110, 111, 112, 113, 636, 637, 638, 639, 114, 115, 116, 117, 640, 641, 642, 643, 411, 412, 413, 414, 415, 416] (by rfl)
set_option maxRecDepth 100000 in
theorem in_wsL_law0_r14 : ∀ w ∈ wsL_law0_r14, w ∈ lw_tbl := mem_pl _ [417, 644, 645, 646, 647, 418, 419, 420, 421, 422, 423, 424, 648, 649, 650, 651, 426, 427, 428, 429, 430, 431, 432, 436] (by rfl)
set_option maxRecDepth 100000 in
theorem in_wsL_law0_r15 : ∀ w ∈ wsL_law0_r15, w ∈ lw_tbl := mem_pl _ [20, 437, 652, 653, 654, 655, 438, 439, 440, 441, 442, 443, 444, 656, 657, 658, 659, 445, 446, 447, 448, 449, 450, 451] (by rfl)
set_option maxRecDepth 100000 in
theorem in_wsL_law0_r16 : ∀ w ∈ wsL_law0_r16, w ∈ lw_tbl := mem_pl _ [660, 661, 662, 663, 118, 119, 120, 121, 664, 665, 666, 667, 453, 454, 455, 456, 457, 458, 459, 460, 462, 21, 463, 668] (by rfl)
set_option maxRecDepth 100000 in
theorem in_wsL_law0_r17 : ∀ w ∈ wsL_law0_r17, w ∈ lw_tbl := mem_pl _ [669, 670, 671, 672, 674, 31, 675, 465, 466, 467, 468, 469, 470, 471, 676, 677, 678, 679, 473, 474, 475, 476, 477, 478] (by rfl)
set_option maxRecDepth 100000 in
theorem in_wsL_law0_r18 : ∀ w ∈ wsL_law0_r18, w ∈ lw_tbl := mem_pl _ [479, 680, 681, 682, 683, 481, 482, 483, 484, 485, 486, 487, 684, 685, 686, 687] (by rfl)
set_option maxRecDepth 100000 in
theorem in_X20 : ∀ w ∈ wsX20, w ∈ lw_tbl := by decide +kernel
set_option maxRecDepth 100000 in
theorem in_X30 : ∀ w ∈ wsX30, w ∈ lw_tbl := by decide +kernel
set_option maxRecDepth 100000 in
theorem in_X10 : ∀ w ∈ wsX10, w ∈ lw_tbl := by decide +kernel
set_option maxRecDepth 100000 in
theorem in_X00 : ∀ w ∈ wsX00, w ∈ lw_tbl := by decide +kernel
theorem wsL_law_in0 : ∀ w ∈ wsL_law0, w ∈ lw_tbl := fun w h => (List.mem_append.mp h).elim (fun h => (List.mem_append.mp h).elim (fun h => (List.mem_append.mp h).elim (fun h => (List.mem_append.mp h).elim (fun h => (List.mem_append.mp h).elim (fun h => (List.mem_append.mp h).elim (fun h => in_wsL_law0_r1 w h) (fun h => (List.mem_append.mp h).elim (fun h => in_wsL_law0_r2 w h) (fun h => (List.mem_append.mp h).elim (fun h => in_wsL_law0_r3 w h) (fun h => (List.mem_append.mp h).elim (fun h => in_wsL_law0_r4 w h) (fun h => (List.mem_append.mp h).elim (fun h => in_wsL_law0_r5 w h) (fun h => (List.mem_append.mp h).elim (fun h => in_wsL_law0_r6 w h) (fun h => (List.mem_append.mp h).elim (fun h => in_wsL_law0_r7 w h) (fun h => (List.mem_append.mp h).elim (fun h => in_wsL_law0_r8 w h) (fun h => (List.mem_append.mp h).elim (fun h => in_wsL_law0_r9 w h) (fun h => (List.mem_append.mp h).elim (fun h => in_wsL_law0_r10 w h) (fun h => (List.mem_append.mp h).elim (fun h => in_wsL_law0_r11 w h) (fun h => (List.mem_append.mp h).elim (fun h => in_wsL_law0_r12 w h) (fun h => (List.mem_append.mp h).elim (fun h => in_wsL_law0_r13 w h) (fun h => (List.mem_append.mp h).elim (fun h => in_wsL_law0_r14 w h) (fun h => (List.mem_append.mp h).elim (fun h => in_wsL_law0_r15 w h) (fun h => (List.mem_append.mp h).elim (fun h => in_wsL_law0_r16 w h) (fun h => (List.mem_append.mp h).elim (fun h => in_wsL_law0_r17 w h) (fun h => in_wsL_law0_r18 w h)))))))))))))))))) (fun h => in_X20 w h)) (fun h => in_X30 w h)) (fun h => in_X10 w h)) (fun h => in_X00 w h)) (fun h => absurd h List.not_mem_nil)
theorem wsL_law_x0 : ∀ w ∈ (vx_atS RX2 63 "java/lang/IndexOutOfBoundsException" ["java/lang/RuntimeException", "java/lang/Exception"]).filter goodWord, w ∈ lw_tbl := by decide +kernel
theorem wsL_law_x1 : ∀ w ∈ (vx_atS RX2 70 "java/lang/IllegalArgumentException" ["java/lang/RuntimeException", "java/lang/Exception"]).filter goodWord, w ∈ lw_tbl := by decide +kernel
theorem wsL_law_x2 : ∀ w ∈ (vx_atS RX2 88 "java/lang/IllegalStateException" ["java/lang/RuntimeException", "java/lang/Exception"]).filter goodWord, w ∈ lw_tbl := by decide +kernel
theorem wsL_law_in : ∀ w ∈ wsL_law, w ∈ lw_tbl := fun w h => (List.mem_append.mp h).elim (fun h => (List.mem_append.mp h).elim (fun h => (List.mem_append.mp h).elim (fun h => wsL_law_in0 w h) (fun h => wsL_law_x0 w h)) (fun h => wsL_law_x1 w h)) (fun h => wsL_law_x2 w h)
theorem inlX0 : ∀ w ∈ wsX00, w ∈ wsL_law := fun _ h => List.mem_append_left _ (List.mem_append_left _ (List.mem_append_left _ (List.mem_append_left _ (List.mem_append_right _ h))))
theorem inX0 : ∀ w ∈ wsX00, w ∈ lw_tbl := fun w h => wsL_law_in w (inlX0 w h)
theorem inlX1 : ∀ w ∈ wsX10, w ∈ wsL_law := fun _ h => List.mem_append_left _ (List.mem_append_left _ (List.mem_append_left _ (List.mem_append_left _ (List.mem_append_left _ (List.mem_append_right _ h)))))
theorem inX1 : ∀ w ∈ wsX10, w ∈ lw_tbl := fun w h => wsL_law_in w (inlX1 w h)
theorem inlX2 : ∀ w ∈ wsX20, w ∈ wsL_law := fun _ h => List.mem_append_left _ (List.mem_append_left _ (List.mem_append_left _ (List.mem_append_left _ (List.mem_append_left _ (List.mem_append_left _ (List.mem_append_left _ (List.mem_append_right _ h)))))))
theorem inX2 : ∀ w ∈ wsX20, w ∈ lw_tbl := fun w h => wsL_law_in w (inlX2 w h)
theorem inlX3 : ∀ w ∈ wsX30, w ∈ wsL_law := fun _ h => List.mem_append_left _ (List.mem_append_left _ (List.mem_append_left _ (List.mem_append_left _ (List.mem_append_left _ (List.mem_append_left _ (List.mem_append_right _ h))))))
theorem inX3 : ∀ w ∈ wsX30, w ∈ lw_tbl := fun w h => wsL_law_in w (inlX3 w h)
theorem inJx8e188 : ∀ w ∈ wsJx8e1880, w ∈ lw_tbl := by decide +kernel
theorem inJ0 : ∀ w ∈ wsJ00, w ∈ lw_tbl := by decide +kernel
end
section
theorem dX0_init_0 : decode cX0_init 0 = .ok (.aload_n 0, 1) := by decide +kernel
theorem dX0_init_1 : decode cX0_init 1 = .ok (.invokespecial 3, 3) := by decide +kernel
theorem dX0_init_4 : decode cX0_init 4 = .ok (.aload_n 0, 1) := by decide +kernel
theorem dX0_init_5 : decode cX0_init 5 = .ok (.iload_n 1, 1) := by decide +kernel
theorem dX0_init_6 : decode cX0_init 6 = .ok (.putfield 9, 3) := by decide +kernel
theorem dX0_init_9 : decode cX0_init 9 = .ok (.aload_n 0, 1) := by decide +kernel
theorem dX0_init_10 : decode cX0_init 10 = .ok (.iload_n 2, 1) := by decide +kernel
theorem dX0_init_11 : decode cX0_init 11 = .ok (.putfield 15, 3) := by decide +kernel
theorem dX0_init_14 : decode cX0_init 14 = .ok (.aload_n 0, 1) := by decide +kernel
theorem dX0_init_15 : decode cX0_init 15 = .ok (.iload_n 3, 1) := by decide +kernel
theorem dX0_init_16 : decode cX0_init 16 = .ok (.putfield 18, 3) := by decide +kernel
theorem dX0_init_19 : decode cX0_init 19 = .ok (.aload_n 0, 1) := by decide +kernel
theorem dX0_init_20 : decode cX0_init 20 = .ok (.iload 4, 2) := by decide +kernel
theorem dX0_init_22 : decode cX0_init 22 = .ok (.putfield 21, 3) := by decide +kernel
theorem dX0_init_25 : decode cX0_init 25 = .ok (.aload_n 0, 1) := by decide +kernel
theorem dX0_init_26 : decode cX0_init 26 = .ok (.iload 5, 2) := by decide +kernel
theorem dX0_init_28 : decode cX0_init 28 = .ok (.putfield 25, 3) := by decide +kernel
theorem dX0_init_31 : decode cX0_init 31 = .ok (.aload_n 0, 1) := by decide +kernel
theorem dX0_init_32 : decode cX0_init 32 = .ok (.aload 6, 2) := by decide +kernel
theorem dX0_init_34 : decode cX0_init 34 = .ok (.putfield 28, 3) := by decide +kernel
theorem dX0_init_37 : decode cX0_init 37 = .ok (.aload_n 0, 1) := by decide +kernel
theorem dX0_init_38 : decode cX0_init 38 = .ok (.aload 7, 2) := by decide +kernel
theorem dX0_init_40 : decode cX0_init 40 = .ok (.putfield 32, 3) := by decide +kernel
theorem dX0_init_43 : decode cX0_init 43 = .ok (.aload_n 0, 1) := by decide +kernel
theorem dX0_init_44 : decode cX0_init 44 = .ok (.iconst 0, 1) := by decide +kernel
theorem dX0_init_45 : decode cX0_init 45 = .ok (.putfield 35, 3) := by decide +kernel
theorem dX0_init_48 : decode cX0_init 48 = .ok (.return_, 1) := by decide +kernel
theorem dX0_unpaid_0 : decode cX0_unpaid 0 = .ok (.iconst 0, 1) := by decide +kernel
theorem dX0_unpaid_1 : decode cX0_unpaid 1 = .ok (.istore_n 1, 1) := by decide +kernel
theorem dX0_unpaid_2 : decode cX0_unpaid 2 = .ok (.aload_n 0, 1) := by decide +kernel
theorem dX0_unpaid_3 : decode cX0_unpaid 3 = .ok (.getfield 35, 3) := by decide +kernel
theorem dX0_unpaid_6 : decode cX0_unpaid 6 = .ok (.istore_n 2, 1) := by decide +kernel
theorem dX0_unpaid_7 : decode cX0_unpaid 7 = .ok (.iload_n 2, 1) := by decide +kernel
theorem dX0_unpaid_8 : decode cX0_unpaid 8 = .ok (.bipush 6, 2) := by decide +kernel
theorem dX0_unpaid_10 : decode cX0_unpaid 10 = .ok (.if_icmp .ge 18, 3) := by decide +kernel
theorem dX0_unpaid_13 : decode cX0_unpaid 13 = .ok (.iload_n 1, 1) := by decide +kernel
theorem dX0_unpaid_14 : decode cX0_unpaid 14 = .ok (.aload_n 0, 1) := by decide +kernel
theorem dX0_unpaid_15 : decode cX0_unpaid 15 = .ok (.getfield 28, 3) := by decide +kernel
theorem dX0_unpaid_18 : decode cX0_unpaid 18 = .ok (.iload_n 2, 1) := by decide +kernel
theorem dX0_unpaid_19 : decode cX0_unpaid 19 = .ok (.iaload, 1) := by decide +kernel
theorem dX0_unpaid_20 : decode cX0_unpaid 20 = .ok (.iadd, 1) := by decide +kernel
theorem dX0_unpaid_21 : decode cX0_unpaid 21 = .ok (.istore_n 1, 1) := by decide +kernel
theorem dX0_unpaid_22 : decode cX0_unpaid 22 = .ok (.iinc 2 1, 3) := by decide +kernel
theorem dX0_unpaid_25 : decode cX0_unpaid 25 = .ok (.goto (-18), 3) := by decide +kernel
theorem dX0_unpaid_28 : decode cX0_unpaid 28 = .ok (.iload_n 1, 1) := by decide +kernel
theorem dX0_unpaid_29 : decode cX0_unpaid 29 = .ok (.ireturn, 1) := by decide +kernel
theorem dX0_partAhead_0 : decode cX0_partAhead 0 = .ok (.aload_n 0, 1) := by decide +kernel
theorem dX0_partAhead_1 : decode cX0_partAhead 1 = .ok (.getfield 35, 3) := by decide +kernel
theorem dX0_partAhead_4 : decode cX0_partAhead 4 = .ok (.iload_n 1, 1) := by decide +kernel
theorem dX0_partAhead_5 : decode cX0_partAhead 5 = .ok (.iadd, 1) := by decide +kernel
theorem dX0_partAhead_6 : decode cX0_partAhead 6 = .ok (.istore_n 2, 1) := by decide +kernel
theorem dX0_partAhead_7 : decode cX0_partAhead 7 = .ok (.iload_n 2, 1) := by decide +kernel
theorem dX0_partAhead_8 : decode cX0_partAhead 8 = .ok (.bipush 6, 2) := by decide +kernel
theorem dX0_partAhead_10 : decode cX0_partAhead 10 = .ok (.if_icmp .ge 12, 3) := by decide +kernel
theorem dX0_partAhead_13 : decode cX0_partAhead 13 = .ok (.aload_n 0, 1) := by decide +kernel
theorem dX0_partAhead_14 : decode cX0_partAhead 14 = .ok (.getfield 28, 3) := by decide +kernel
theorem dX0_partAhead_17 : decode cX0_partAhead 17 = .ok (.iload_n 2, 1) := by decide +kernel
theorem dX0_partAhead_18 : decode cX0_partAhead 18 = .ok (.iaload, 1) := by decide +kernel
theorem dX0_partAhead_19 : decode cX0_partAhead 19 = .ok (.goto 4, 3) := by decide +kernel
theorem dX0_partAhead_22 : decode cX0_partAhead 22 = .ok (.iconst 0, 1) := by decide +kernel
theorem dX0_partAhead_23 : decode cX0_partAhead 23 = .ok (.ireturn, 1) := by decide +kernel
set_option maxRecDepth 20000 in
theorem ggX0_customerInterest_X0_unpaid : GoodIn wsX0_customerInterest wsX0_unpaid := goodIn_r _ [6, 7, 8, 13, 14, 15, 16, 17, 18, 19, 20] (by decide +kernel) (by decide +kernel)
set_option maxRecDepth 20000 in
theorem gX0_customerInterest_X0_unpaid : GoodIn wsX0_customerInterest (wsV RX0 38 RX0 yX0_unpaid wsX0_unpaid) := goodIn_app (goodIn_of _ (by decide +kernel)) ggX0_customerInterest_X0_unpaid
set_option maxRecDepth 20000 in
theorem ggX0_customerInterest_X2_forOneMonth : GoodIn wsX0_customerInterest wsX2_forOneMonth := goodIn_r _ [11, 12] (by decide +kernel) (by decide +kernel)
set_option maxRecDepth 20000 in
theorem gX0_customerInterest_X2_forOneMonth_n42 : GoodIn wsX0_customerInterest (wsX2_forOneMonth) := ggX0_customerInterest_X2_forOneMonth
theorem dX0_customerInterest_0 : decode cX0_customerInterest 0 = .ok (.aload_n 0, 1) := by decide +kernel
theorem dX0_customerInterest_1 : decode cX0_customerInterest 1 = .ok (.invokevirtual 38, 3) := by decide +kernel
theorem dX0_customerInterest_4 : decode cX0_customerInterest 4 = .ok (.i2l, 1) := by decide +kernel
theorem dX0_customerInterest_5 : decode cX0_customerInterest 5 = .ok (.aload_n 0, 1) := by decide +kernel
theorem dX0_customerInterest_6 : decode cX0_customerInterest 6 = .ok (.getfield 18, 3) := by decide +kernel
theorem dX0_customerInterest_9 : decode cX0_customerInterest 9 = .ok (.i2l, 1) := by decide +kernel
theorem dX0_customerInterest_10 : decode cX0_customerInterest 10 = .ok (.lmul, 1) := by decide +kernel
theorem dX0_customerInterest_11 : decode cX0_customerInterest 11 = .ok (.invokestatic 42, 3) := by decide +kernel
theorem dX0_customerInterest_14 : decode cX0_customerInterest 14 = .ok (.ireturn, 1) := by decide +kernel
set_option maxRecDepth 20000 in
theorem ggX0_funding_X2_forOneMonth : GoodIn wsX0_funding wsX2_forOneMonth := goodIn_r _ [6, 7] (by decide +kernel) (by decide +kernel)
set_option maxRecDepth 20000 in
theorem gX0_funding_X2_forOneMonth_n42 : GoodIn wsX0_funding (wsX2_forOneMonth) := ggX0_funding_X2_forOneMonth
theorem dX0_funding_0 : decode cX0_funding 0 = .ok (.lconst 0, 1) := by decide +kernel
theorem dX0_funding_1 : decode cX0_funding 1 = .ok (.lstore_n 1, 1) := by decide +kernel
theorem dX0_funding_2 : decode cX0_funding 2 = .ok (.aload_n 0, 1) := by decide +kernel
theorem dX0_funding_3 : decode cX0_funding 3 = .ok (.getfield 35, 3) := by decide +kernel
theorem dX0_funding_6 : decode cX0_funding 6 = .ok (.istore_n 3, 1) := by decide +kernel
theorem dX0_funding_7 : decode cX0_funding 7 = .ok (.iload_n 3, 1) := by decide +kernel
theorem dX0_funding_8 : decode cX0_funding 8 = .ok (.bipush 6, 2) := by decide +kernel
theorem dX0_funding_10 : decode cX0_funding 10 = .ok (.if_icmp .ge 27, 3) := by decide +kernel
theorem dX0_funding_13 : decode cX0_funding 13 = .ok (.lload_n 1, 1) := by decide +kernel
theorem dX0_funding_14 : decode cX0_funding 14 = .ok (.aload_n 0, 1) := by decide +kernel
theorem dX0_funding_15 : decode cX0_funding 15 = .ok (.getfield 28, 3) := by decide +kernel
theorem dX0_funding_18 : decode cX0_funding 18 = .ok (.iload_n 3, 1) := by decide +kernel
theorem dX0_funding_19 : decode cX0_funding 19 = .ok (.iaload, 1) := by decide +kernel
theorem dX0_funding_20 : decode cX0_funding 20 = .ok (.i2l, 1) := by decide +kernel
theorem dX0_funding_21 : decode cX0_funding 21 = .ok (.aload_n 0, 1) := by decide +kernel
theorem dX0_funding_22 : decode cX0_funding 22 = .ok (.getfield 32, 3) := by decide +kernel
theorem dX0_funding_25 : decode cX0_funding 25 = .ok (.iload_n 3, 1) := by decide +kernel
theorem dX0_funding_26 : decode cX0_funding 26 = .ok (.iaload, 1) := by decide +kernel
theorem dX0_funding_27 : decode cX0_funding 27 = .ok (.i2l, 1) := by decide +kernel
theorem dX0_funding_28 : decode cX0_funding 28 = .ok (.lmul, 1) := by decide +kernel
theorem dX0_funding_29 : decode cX0_funding 29 = .ok (.ladd, 1) := by decide +kernel
theorem dX0_funding_30 : decode cX0_funding 30 = .ok (.lstore_n 1, 1) := by decide +kernel
theorem dX0_funding_31 : decode cX0_funding 31 = .ok (.iinc 3 1, 3) := by decide +kernel
theorem dX0_funding_34 : decode cX0_funding 34 = .ok (.goto (-27), 3) := by decide +kernel
theorem dX0_funding_37 : decode cX0_funding 37 = .ok (.lload_n 1, 1) := by decide +kernel
theorem dX0_funding_38 : decode cX0_funding 38 = .ok (.invokestatic 42, 3) := by decide +kernel
theorem dX0_funding_41 : decode cX0_funding 41 = .ok (.ireturn, 1) := by decide +kernel
set_option maxRecDepth 20000 in
theorem ggX0_optionCharge_X0_unpaid : GoodIn wsX0_optionCharge wsX0_unpaid := goodIn_r _ [6, 7, 8, 13, 14, 15, 16, 17, 18, 19, 20] (by decide +kernel) (by decide +kernel)
set_option maxRecDepth 20000 in
theorem gX0_optionCharge_X0_unpaid : GoodIn wsX0_optionCharge (wsV RX0 38 RX0 yX0_unpaid wsX0_unpaid) := goodIn_app (goodIn_of _ (by decide +kernel)) ggX0_optionCharge_X0_unpaid
set_option maxRecDepth 20000 in
theorem ggX0_optionCharge_X2_forOneMonth : GoodIn wsX0_optionCharge wsX2_forOneMonth := goodIn_r _ [11, 12] (by decide +kernel) (by decide +kernel)
set_option maxRecDepth 20000 in
theorem gX0_optionCharge_X2_forOneMonth_n42 : GoodIn wsX0_optionCharge (wsX2_forOneMonth) := ggX0_optionCharge_X2_forOneMonth
theorem dX0_optionCharge_0 : decode cX0_optionCharge 0 = .ok (.aload_n 0, 1) := by decide +kernel
theorem dX0_optionCharge_1 : decode cX0_optionCharge 1 = .ok (.invokevirtual 38, 3) := by decide +kernel
theorem dX0_optionCharge_4 : decode cX0_optionCharge 4 = .ok (.i2l, 1) := by decide +kernel
theorem dX0_optionCharge_5 : decode cX0_optionCharge 5 = .ok (.aload_n 0, 1) := by decide +kernel
theorem dX0_optionCharge_6 : decode cX0_optionCharge 6 = .ok (.getfield 25, 3) := by decide +kernel
theorem dX0_optionCharge_9 : decode cX0_optionCharge 9 = .ok (.i2l, 1) := by decide +kernel
theorem dX0_optionCharge_10 : decode cX0_optionCharge 10 = .ok (.lmul, 1) := by decide +kernel
theorem dX0_optionCharge_11 : decode cX0_optionCharge 11 = .ok (.invokestatic 42, 3) := by decide +kernel
theorem dX0_optionCharge_14 : decode cX0_optionCharge 14 = .ok (.ireturn, 1) := by decide +kernel
set_option maxRecDepth 20000 in
theorem ggX0_ownMargin_X0_customerInterest : GoodIn wsX0_ownMargin wsX0_customerInterest := goodIn_r _ [5, 6, 7, 8, 9, 4, 10, 11, 12, 13, 14, 15, 16, 27, 28, 29, 30, 31, 32, 33, 34] (by decide +kernel) (by decide +kernel)
set_option maxRecDepth 20000 in
theorem gX0_ownMargin_X0_customerInterest : GoodIn wsX0_ownMargin (wsV RX0 46 RX0 yX0_customerInterest wsX0_customerInterest) := goodIn_app (goodIn_of _ (by decide +kernel)) ggX0_ownMargin_X0_customerInterest
set_option maxRecDepth 20000 in
theorem ggX0_ownMargin_X0_funding : GoodIn wsX0_ownMargin wsX0_funding := goodIn_r _ [20, 11, 12, 21, 13, 14, 15, 16, 27, 28, 29, 30, 31, 32, 33, 34] (by decide +kernel) (by decide +kernel)
set_option maxRecDepth 20000 in
theorem gX0_ownMargin_X0_funding : GoodIn wsX0_ownMargin (wsV RX0 49 RX0 yX0_funding wsX0_funding) := goodIn_app (goodIn_of _ (by decide +kernel)) ggX0_ownMargin_X0_funding
set_option maxRecDepth 20000 in
theorem ggX0_ownMargin_X0_optionCharge : GoodIn wsX0_ownMargin wsX0_optionCharge := goodIn_r _ [25, 26, 7, 8, 9, 4, 10, 11, 12, 13, 14, 15, 16, 27, 28, 29, 30, 31, 32, 33, 34] (by decide +kernel) (by decide +kernel)
set_option maxRecDepth 20000 in
theorem gX0_ownMargin_X0_optionCharge : GoodIn wsX0_ownMargin (wsV RX0 52 RX0 yX0_optionCharge wsX0_optionCharge) := goodIn_app (goodIn_of _ (by decide +kernel)) ggX0_ownMargin_X0_optionCharge
theorem dX0_ownMargin_0 : decode cX0_ownMargin 0 = .ok (.aload_n 0, 1) := by decide +kernel
theorem dX0_ownMargin_1 : decode cX0_ownMargin 1 = .ok (.invokevirtual 46, 3) := by decide +kernel
theorem dX0_ownMargin_4 : decode cX0_ownMargin 4 = .ok (.aload_n 0, 1) := by decide +kernel
theorem dX0_ownMargin_5 : decode cX0_ownMargin 5 = .ok (.invokevirtual 49, 3) := by decide +kernel
theorem dX0_ownMargin_8 : decode cX0_ownMargin 8 = .ok (.isub, 1) := by decide +kernel
theorem dX0_ownMargin_9 : decode cX0_ownMargin 9 = .ok (.aload_n 0, 1) := by decide +kernel
theorem dX0_ownMargin_10 : decode cX0_ownMargin 10 = .ok (.invokevirtual 52, 3) := by decide +kernel
theorem dX0_ownMargin_13 : decode cX0_ownMargin 13 = .ok (.isub, 1) := by decide +kernel
theorem dX0_ownMargin_14 : decode cX0_ownMargin 14 = .ok (.ireturn, 1) := by decide +kernel
theorem dX0_payPart_0 : decode cX0_payPart 0 = .ok (.aload_n 0, 1) := by decide +kernel
theorem dX0_payPart_1 : decode cX0_payPart 1 = .ok (.getfield 35, 3) := by decide +kernel
theorem dX0_payPart_4 : decode cX0_payPart 4 = .ok (.bipush 6, 2) := by decide +kernel
theorem dX0_payPart_6 : decode cX0_payPart 6 = .ok (.if_icmp .ge 13, 3) := by decide +kernel
theorem dX0_payPart_9 : decode cX0_payPart 9 = .ok (.aload_n 0, 1) := by decide +kernel
theorem dX0_payPart_10 : decode cX0_payPart 10 = .ok (.aload_n 0, 1) := by decide +kernel
theorem dX0_payPart_11 : decode cX0_payPart 11 = .ok (.getfield 35, 3) := by decide +kernel
theorem dX0_payPart_14 : decode cX0_payPart 14 = .ok (.iconst 1, 1) := by decide +kernel
theorem dX0_payPart_15 : decode cX0_payPart 15 = .ok (.iadd, 1) := by decide +kernel
theorem dX0_payPart_16 : decode cX0_payPart 16 = .ok (.putfield 35, 3) := by decide +kernel
theorem dX0_payPart_19 : decode cX0_payPart 19 = .ok (.return_, 1) := by decide +kernel
theorem dX0_settle_0 : decode cX0_settle 0 = .ok (.aload_n 0, 1) := by decide +kernel
theorem dX0_settle_1 : decode cX0_settle 1 = .ok (.bipush 6, 2) := by decide +kernel
theorem dX0_settle_3 : decode cX0_settle 3 = .ok (.putfield 35, 3) := by decide +kernel
theorem dX0_settle_6 : decode cX0_settle 6 = .ok (.return_, 1) := by decide +kernel
theorem dX1_init_0 : decode cX1_init 0 = .ok (.aload_n 0, 1) := by decide +kernel
theorem dX1_init_1 : decode cX1_init 1 = .ok (.invokespecial 3, 3) := by decide +kernel
theorem dX1_init_4 : decode cX1_init 4 = .ok (.aload_n 0, 1) := by decide +kernel
theorem dX1_init_5 : decode cX1_init 5 = .ok (.bipush 6, 2) := by decide +kernel
theorem dX1_init_7 : decode cX1_init 7 = .ok (.newarray .int, 2) := by decide +kernel
theorem dX1_init_9 : decode cX1_init 9 = .ok (.putfield 9, 3) := by decide +kernel
theorem dX1_init_12 : decode cX1_init 12 = .ok (.aload_n 0, 1) := by decide +kernel
theorem dX1_init_13 : decode cX1_init 13 = .ok (.bipush 6, 2) := by decide +kernel
theorem dX1_init_15 : decode cX1_init 15 = .ok (.newarray .int, 2) := by decide +kernel
theorem dX1_init_17 : decode cX1_init 17 = .ok (.putfield 15, 3) := by decide +kernel
theorem dX1_init_20 : decode cX1_init 20 = .ok (.return_, 1) := by decide +kernel
theorem dX1_lay_0 : decode cX1_lay 0 = .ok (.iload_n 1, 1) := by decide +kernel
theorem dX1_lay_1 : decode cX1_lay 1 = .ok (.ifCond .lt 23, 3) := by decide +kernel
theorem dX1_lay_4 : decode cX1_lay 4 = .ok (.iload_n 1, 1) := by decide +kernel
theorem dX1_lay_5 : decode cX1_lay 5 = .ok (.bipush 6, 2) := by decide +kernel
theorem dX1_lay_7 : decode cX1_lay 7 = .ok (.if_icmp .ge 17, 3) := by decide +kernel
theorem dX1_lay_10 : decode cX1_lay 10 = .ok (.aload_n 0, 1) := by decide +kernel
theorem dX1_lay_11 : decode cX1_lay 11 = .ok (.getfield 9, 3) := by decide +kernel
theorem dX1_lay_14 : decode cX1_lay 14 = .ok (.iload_n 1, 1) := by decide +kernel
theorem dX1_lay_15 : decode cX1_lay 15 = .ok (.iload_n 2, 1) := by decide +kernel
theorem dX1_lay_16 : decode cX1_lay 16 = .ok (.iastore, 1) := by decide +kernel
theorem dX1_lay_17 : decode cX1_lay 17 = .ok (.aload_n 0, 1) := by decide +kernel
theorem dX1_lay_18 : decode cX1_lay 18 = .ok (.getfield 15, 3) := by decide +kernel
theorem dX1_lay_21 : decode cX1_lay 21 = .ok (.iload_n 1, 1) := by decide +kernel
theorem dX1_lay_22 : decode cX1_lay 22 = .ok (.iload_n 3, 1) := by decide +kernel
theorem dX1_lay_23 : decode cX1_lay 23 = .ok (.iastore, 1) := by decide +kernel
theorem dX1_lay_24 : decode cX1_lay 24 = .ok (.return_, 1) := by decide +kernel
set_option maxRecDepth 20000 in
theorem ggX1_layAll_X1_lay : GoodIn wsX1_layAll wsX1_lay := goodIn_r _ [5, 6, 7, 8, 9] (by decide +kernel) (by decide +kernel)
set_option maxRecDepth 20000 in
theorem gX1_layAll_X1_lay : GoodIn wsX1_layAll (wsV RX1 18 RX1 yX1_lay wsX1_lay) := goodIn_app (goodIn_of _ (by decide +kernel)) ggX1_layAll_X1_lay
theorem dX1_layAll_0 : decode cX1_layAll 0 = .ok (.iconst 0, 1) := by decide +kernel
theorem dX1_layAll_1 : decode cX1_layAll 1 = .ok (.istore_n 3, 1) := by decide +kernel
theorem dX1_layAll_2 : decode cX1_layAll 2 = .ok (.iload_n 3, 1) := by decide +kernel
theorem dX1_layAll_3 : decode cX1_layAll 3 = .ok (.bipush 6, 2) := by decide +kernel
theorem dX1_layAll_5 : decode cX1_layAll 5 = .ok (.if_icmp .ge 16, 3) := by decide +kernel
theorem dX1_layAll_8 : decode cX1_layAll 8 = .ok (.aload_n 0, 1) := by decide +kernel
theorem dX1_layAll_9 : decode cX1_layAll 9 = .ok (.iload_n 3, 1) := by decide +kernel
theorem dX1_layAll_10 : decode cX1_layAll 10 = .ok (.iload_n 1, 1) := by decide +kernel
theorem dX1_layAll_11 : decode cX1_layAll 11 = .ok (.iload_n 2, 1) := by decide +kernel
theorem dX1_layAll_12 : decode cX1_layAll 12 = .ok (.invokevirtual 18, 3) := by decide +kernel
theorem dX1_layAll_15 : decode cX1_layAll 15 = .ok (.iinc 3 1, 3) := by decide +kernel
theorem dX1_layAll_18 : decode cX1_layAll 18 = .ok (.goto (-16), 3) := by decide +kernel
theorem dX1_layAll_21 : decode cX1_layAll 21 = .ok (.return_, 1) := by decide +kernel
theorem dX1_averageRate_0 : decode cX1_averageRate 0 = .ok (.lconst 0, 1) := by decide +kernel
theorem dX1_averageRate_1 : decode cX1_averageRate 1 = .ok (.lstore_n 1, 1) := by decide +kernel
theorem dX1_averageRate_2 : decode cX1_averageRate 2 = .ok (.lconst 0, 1) := by decide +kernel
theorem dX1_averageRate_3 : decode cX1_averageRate 3 = .ok (.lstore_n 3, 1) := by decide +kernel
theorem dX1_averageRate_4 : decode cX1_averageRate 4 = .ok (.iconst 0, 1) := by decide +kernel
theorem dX1_averageRate_5 : decode cX1_averageRate 5 = .ok (.istore 5, 2) := by decide +kernel
theorem dX1_averageRate_7 : decode cX1_averageRate 7 = .ok (.iload 5, 2) := by decide +kernel
theorem dX1_averageRate_9 : decode cX1_averageRate 9 = .ok (.bipush 6, 2) := by decide +kernel
theorem dX1_averageRate_11 : decode cX1_averageRate 11 = .ok (.if_icmp .ge 40, 3) := by decide +kernel
theorem dX1_averageRate_14 : decode cX1_averageRate 14 = .ok (.lload_n 1, 1) := by decide +kernel
theorem dX1_averageRate_15 : decode cX1_averageRate 15 = .ok (.aload_n 0, 1) := by decide +kernel
theorem dX1_averageRate_16 : decode cX1_averageRate 16 = .ok (.getfield 9, 3) := by decide +kernel
theorem dX1_averageRate_19 : decode cX1_averageRate 19 = .ok (.iload 5, 2) := by decide +kernel
theorem dX1_averageRate_21 : decode cX1_averageRate 21 = .ok (.iaload, 1) := by decide +kernel
theorem dX1_averageRate_22 : decode cX1_averageRate 22 = .ok (.i2l, 1) := by decide +kernel
theorem dX1_averageRate_23 : decode cX1_averageRate 23 = .ok (.ladd, 1) := by decide +kernel
theorem dX1_averageRate_24 : decode cX1_averageRate 24 = .ok (.lstore_n 1, 1) := by decide +kernel
theorem dX1_averageRate_25 : decode cX1_averageRate 25 = .ok (.lload_n 3, 1) := by decide +kernel
theorem dX1_averageRate_26 : decode cX1_averageRate 26 = .ok (.aload_n 0, 1) := by decide +kernel
theorem dX1_averageRate_27 : decode cX1_averageRate 27 = .ok (.getfield 9, 3) := by decide +kernel
theorem dX1_averageRate_30 : decode cX1_averageRate 30 = .ok (.iload 5, 2) := by decide +kernel
theorem dX1_averageRate_32 : decode cX1_averageRate 32 = .ok (.iaload, 1) := by decide +kernel
theorem dX1_averageRate_33 : decode cX1_averageRate 33 = .ok (.i2l, 1) := by decide +kernel
theorem dX1_averageRate_34 : decode cX1_averageRate 34 = .ok (.aload_n 0, 1) := by decide +kernel
theorem dX1_averageRate_35 : decode cX1_averageRate 35 = .ok (.getfield 15, 3) := by decide +kernel
theorem dX1_averageRate_38 : decode cX1_averageRate 38 = .ok (.iload 5, 2) := by decide +kernel
theorem dX1_averageRate_40 : decode cX1_averageRate 40 = .ok (.iaload, 1) := by decide +kernel
theorem dX1_averageRate_41 : decode cX1_averageRate 41 = .ok (.i2l, 1) := by decide +kernel
theorem dX1_averageRate_42 : decode cX1_averageRate 42 = .ok (.lmul, 1) := by decide +kernel
theorem dX1_averageRate_43 : decode cX1_averageRate 43 = .ok (.ladd, 1) := by decide +kernel
theorem dX1_averageRate_44 : decode cX1_averageRate 44 = .ok (.lstore_n 3, 1) := by decide +kernel
theorem dX1_averageRate_45 : decode cX1_averageRate 45 = .ok (.iinc 5 1, 3) := by decide +kernel
theorem dX1_averageRate_48 : decode cX1_averageRate 48 = .ok (.goto (-41), 3) := by decide +kernel
theorem dX1_averageRate_51 : decode cX1_averageRate 51 = .ok (.lload_n 1, 1) := by decide +kernel
theorem dX1_averageRate_52 : decode cX1_averageRate 52 = .ok (.lconst 0, 1) := by decide +kernel
theorem dX1_averageRate_53 : decode cX1_averageRate 53 = .ok (.lcmp, 1) := by decide +kernel
theorem dX1_averageRate_54 : decode cX1_averageRate 54 = .ok (.ifCond .le 10, 3) := by decide +kernel
theorem dX1_averageRate_57 : decode cX1_averageRate 57 = .ok (.lload_n 3, 1) := by decide +kernel
theorem dX1_averageRate_58 : decode cX1_averageRate 58 = .ok (.lload_n 1, 1) := by decide +kernel
theorem dX1_averageRate_59 : decode cX1_averageRate 59 = .ok (.ldiv, 1) := by decide +kernel
theorem dX1_averageRate_60 : decode cX1_averageRate 60 = .ok (.l2i, 1) := by decide +kernel
theorem dX1_averageRate_61 : decode cX1_averageRate 61 = .ok (.goto 4, 3) := by decide +kernel
theorem dX1_averageRate_64 : decode cX1_averageRate 64 = .ok (.iconst 0, 1) := by decide +kernel
theorem dX1_averageRate_65 : decode cX1_averageRate 65 = .ok (.ireturn, 1) := by decide +kernel
end
section
set_option maxRecDepth 20000 in
theorem ggX2_init_X1_init : GoodIn wsX2_init wsX1_init := goodIn_r _ [24, 25, 2, 3, 4, 26, 27, 41, 42] (by decide +kernel) (by decide +kernel)
set_option maxRecDepth 20000 in
theorem gX2_init_X1_init_n40 : GoodIn wsX2_init (wsX1_init) := ggX2_init_X1_init
theorem dX2_init_0 : decode cX2_init 0 = .ok (.aload_n 0, 1) := by decide +kernel
theorem dX2_init_1 : decode cX2_init 1 = .ok (.invokespecial 1, 3) := by decide +kernel
theorem dX2_init_4 : decode cX2_init 4 = .ok (.aload_n 0, 1) := by decide +kernel
theorem dX2_init_5 : decode cX2_init 5 = .ok (.bipush 6, 2) := by decide +kernel
theorem dX2_init_7 : decode cX2_init 7 = .ok (.newarray .int, 2) := by decide +kernel
theorem dX2_init_9 : decode cX2_init 9 = .ok (.putfield 9, 3) := by decide +kernel
theorem dX2_init_12 : decode cX2_init 12 = .ok (.aload_n 0, 1) := by decide +kernel
theorem dX2_init_13 : decode cX2_init 13 = .ok (.iconst 0, 1) := by decide +kernel
theorem dX2_init_14 : decode cX2_init 14 = .ok (.putfield 13, 3) := by decide +kernel
theorem dX2_init_17 : decode cX2_init 17 = .ok (.aload_n 0, 1) := by decide +kernel
theorem dX2_init_18 : decode cX2_init 18 = .ok (.iconst 0, 1) := by decide +kernel
theorem dX2_init_19 : decode cX2_init 19 = .ok (.putfield 17, 3) := by decide +kernel
theorem dX2_init_22 : decode cX2_init 22 = .ok (.aload_n 0, 1) := by decide +kernel
theorem dX2_init_23 : decode cX2_init 23 = .ok (.bipush 50, 2) := by decide +kernel
theorem dX2_init_25 : decode cX2_init 25 = .ok (.putfield 20, 3) := by decide +kernel
theorem dX2_init_28 : decode cX2_init 28 = .ok (.aload_n 0, 1) := by decide +kernel
theorem dX2_init_29 : decode cX2_init 29 = .ok (.iconst 0, 1) := by decide +kernel
theorem dX2_init_30 : decode cX2_init 30 = .ok (.putfield 23, 3) := by decide +kernel
theorem dX2_init_33 : decode cX2_init 33 = .ok (.aload_n 0, 1) := by decide +kernel
theorem dX2_init_34 : decode cX2_init 34 = .ok (.bipush 24, 2) := by decide +kernel
theorem dX2_init_36 : decode cX2_init 36 = .ok (.anewarray 26, 3) := by decide +kernel
theorem dX2_init_39 : decode cX2_init 39 = .ok (.putfield 28, 3) := by decide +kernel
theorem dX2_init_42 : decode cX2_init 42 = .ok (.aload_n 0, 1) := by decide +kernel
theorem dX2_init_43 : decode cX2_init 43 = .ok (.iconst 0, 1) := by decide +kernel
theorem dX2_init_44 : decode cX2_init 44 = .ok (.putfield 32, 3) := by decide +kernel
theorem dX2_init_47 : decode cX2_init 47 = .ok (.aload_n 0, 1) := by decide +kernel
theorem dX2_init_48 : decode cX2_init 48 = .ok (.iconst 3, 1) := by decide +kernel
theorem dX2_init_49 : decode cX2_init 49 = .ok (.newarray .int, 2) := by decide +kernel
theorem dX2_init_51 : decode cX2_init 51 = .ok (.putfield 35, 3) := by decide +kernel
theorem dX2_init_54 : decode cX2_init 54 = .ok (.aload_n 0, 1) := by decide +kernel
theorem dX2_init_55 : decode cX2_init 55 = .ok (.new 38, 3) := by decide +kernel
theorem dX2_init_58 : decode cX2_init 58 = .ok (.dup, 1) := by decide +kernel
theorem dX2_init_59 : decode cX2_init 59 = .ok (.invokespecial 40, 3) := by decide +kernel
theorem dX2_init_62 : decode cX2_init 62 = .ok (.putfield 41, 3) := by decide +kernel
theorem dX2_init_65 : decode cX2_init 65 = .ok (.aload_n 0, 1) := by decide +kernel
theorem dX2_init_66 : decode cX2_init 66 = .ok (.iconst 3, 1) := by decide +kernel
theorem dX2_init_67 : decode cX2_init 67 = .ok (.bipush 47, 2) := by decide +kernel
theorem dX2_init_69 : decode cX2_init 69 = .ok (.multianewarray 45 2, 4) := by decide +kernel
theorem dX2_init_73 : decode cX2_init 73 = .ok (.putfield 47, 3) := by decide +kernel
theorem dX2_init_76 : decode cX2_init 76 = .ok (.aload_n 0, 1) := by decide +kernel
theorem dX2_init_77 : decode cX2_init 77 = .ok (.iconst 3, 1) := by decide +kernel
theorem dX2_init_78 : decode cX2_init 78 = .ok (.bipush 47, 2) := by decide +kernel
theorem dX2_init_80 : decode cX2_init 80 = .ok (.multianewarray 45 2, 4) := by decide +kernel
theorem dX2_init_84 : decode cX2_init 84 = .ok (.putfield 50, 3) := by decide +kernel
theorem dX2_init_87 : decode cX2_init 87 = .ok (.aload_n 0, 1) := by decide +kernel
theorem dX2_init_88 : decode cX2_init 88 = .ok (.bipush 47, 2) := by decide +kernel
theorem dX2_init_90 : decode cX2_init 90 = .ok (.newarray .int, 2) := by decide +kernel
theorem dX2_init_92 : decode cX2_init 92 = .ok (.putfield 53, 3) := by decide +kernel
theorem dX2_init_95 : decode cX2_init 95 = .ok (.aload_n 0, 1) := by decide +kernel
theorem dX2_init_96 : decode cX2_init 96 = .ok (.bipush 47, 2) := by decide +kernel
theorem dX2_init_98 : decode cX2_init 98 = .ok (.newarray .int, 2) := by decide +kernel
theorem dX2_init_100 : decode cX2_init 100 = .ok (.putfield 56, 3) := by decide +kernel
theorem dX2_init_103 : decode cX2_init 103 = .ok (.return_, 1) := by decide +kernel
theorem dX2_setCurve_0 : decode cX2_setCurve 0 = .ok (.iload_n 1, 1) := by decide +kernel
theorem dX2_setCurve_1 : decode cX2_setCurve 1 = .ok (.iconst 1, 1) := by decide +kernel
theorem dX2_setCurve_2 : decode cX2_setCurve 2 = .ok (.if_icmp .lt 9, 3) := by decide +kernel
theorem dX2_setCurve_5 : decode cX2_setCurve 5 = .ok (.iload_n 1, 1) := by decide +kernel
theorem dX2_setCurve_6 : decode cX2_setCurve 6 = .ok (.bipush 6, 2) := by decide +kernel
theorem dX2_setCurve_8 : decode cX2_setCurve 8 = .ok (.if_icmp .le 13, 3) := by decide +kernel
theorem dX2_setCurve_11 : decode cX2_setCurve 11 = .ok (.new 59, 3) := by decide +kernel
theorem dX2_setCurve_14 : decode cX2_setCurve 14 = .ok (.dup, 1) := by decide +kernel
theorem dX2_setCurve_15 : decode cX2_setCurve 15 = .ok (.ldc 61, 2) := by decide +kernel
theorem dX2_setCurve_17 : decode cX2_setCurve 17 = .ok (.invokespecial 63, 3) := by decide +kernel
theorem dX2_setCurve_20 : decode cX2_setCurve 20 = .ok (.athrow, 1) := by decide +kernel
theorem dX2_setCurve_21 : decode cX2_setCurve 21 = .ok (.iload_n 2, 1) := by decide +kernel
theorem dX2_setCurve_22 : decode cX2_setCurve 22 = .ok (.ifCond .lt 10, 3) := by decide +kernel
theorem dX2_setCurve_25 : decode cX2_setCurve 25 = .ok (.iload_n 2, 1) := by decide +kernel
theorem dX2_setCurve_26 : decode cX2_setCurve 26 = .ok (.sipush 5000, 3) := by decide +kernel
theorem dX2_setCurve_29 : decode cX2_setCurve 29 = .ok (.if_icmp .le 13, 3) := by decide +kernel
theorem dX2_setCurve_32 : decode cX2_setCurve 32 = .ok (.new 66, 3) := by decide +kernel
theorem dX2_setCurve_35 : decode cX2_setCurve 35 = .ok (.dup, 1) := by decide +kernel
theorem dX2_setCurve_36 : decode cX2_setCurve 36 = .ok (.ldc 68, 2) := by decide +kernel
theorem dX2_setCurve_38 : decode cX2_setCurve 38 = .ok (.invokespecial 70, 3) := by decide +kernel
theorem dX2_setCurve_41 : decode cX2_setCurve 41 = .ok (.athrow, 1) := by decide +kernel
theorem dX2_setCurve_42 : decode cX2_setCurve 42 = .ok (.aload_n 0, 1) := by decide +kernel
theorem dX2_setCurve_43 : decode cX2_setCurve 43 = .ok (.getfield 9, 3) := by decide +kernel
theorem dX2_setCurve_46 : decode cX2_setCurve 46 = .ok (.iload_n 1, 1) := by decide +kernel
theorem dX2_setCurve_47 : decode cX2_setCurve 47 = .ok (.iconst 1, 1) := by decide +kernel
theorem dX2_setCurve_48 : decode cX2_setCurve 48 = .ok (.isub, 1) := by decide +kernel
theorem dX2_setCurve_49 : decode cX2_setCurve 49 = .ok (.iaload, 1) := by decide +kernel
theorem dX2_setCurve_50 : decode cX2_setCurve 50 = .ok (.istore_n 3, 1) := by decide +kernel
theorem dX2_setCurve_51 : decode cX2_setCurve 51 = .ok (.aload_n 0, 1) := by decide +kernel
theorem dX2_setCurve_52 : decode cX2_setCurve 52 = .ok (.getfield 9, 3) := by decide +kernel
theorem dX2_setCurve_55 : decode cX2_setCurve 55 = .ok (.iload_n 1, 1) := by decide +kernel
theorem dX2_setCurve_56 : decode cX2_setCurve 56 = .ok (.iconst 1, 1) := by decide +kernel
theorem dX2_setCurve_57 : decode cX2_setCurve 57 = .ok (.isub, 1) := by decide +kernel
theorem dX2_setCurve_58 : decode cX2_setCurve 58 = .ok (.iload_n 2, 1) := by decide +kernel
theorem dX2_setCurve_59 : decode cX2_setCurve 59 = .ok (.iastore, 1) := by decide +kernel
theorem dX2_setCurve_60 : decode cX2_setCurve 60 = .ok (.iload_n 3, 1) := by decide +kernel
theorem dX2_setCurve_61 : decode cX2_setCurve 61 = .ok (.ireturn, 1) := by decide +kernel
theorem dX2_setRates_0 : decode cX2_setRates 0 = .ok (.iload_n 1, 1) := by decide +kernel
theorem dX2_setRates_1 : decode cX2_setRates 1 = .ok (.ifCond .lt 10, 3) := by decide +kernel
theorem dX2_setRates_4 : decode cX2_setRates 4 = .ok (.iload_n 1, 1) := by decide +kernel
theorem dX2_setRates_5 : decode cX2_setRates 5 = .ok (.sipush 5000, 3) := by decide +kernel
theorem dX2_setRates_8 : decode cX2_setRates 8 = .ok (.if_icmp .le 13, 3) := by decide +kernel
theorem dX2_setRates_11 : decode cX2_setRates 11 = .ok (.new 66, 3) := by decide +kernel
theorem dX2_setRates_14 : decode cX2_setRates 14 = .ok (.dup, 1) := by decide +kernel
theorem dX2_setRates_15 : decode cX2_setRates 15 = .ok (.ldc 71, 2) := by decide +kernel
theorem dX2_setRates_17 : decode cX2_setRates 17 = .ok (.invokespecial 70, 3) := by decide +kernel
theorem dX2_setRates_20 : decode cX2_setRates 20 = .ok (.athrow, 1) := by decide +kernel
theorem dX2_setRates_21 : decode cX2_setRates 21 = .ok (.iload_n 2, 1) := by decide +kernel
theorem dX2_setRates_22 : decode cX2_setRates 22 = .ok (.ifCond .lt 10, 3) := by decide +kernel
theorem dX2_setRates_25 : decode cX2_setRates 25 = .ok (.iload_n 2, 1) := by decide +kernel
theorem dX2_setRates_26 : decode cX2_setRates 26 = .ok (.sipush 5000, 3) := by decide +kernel
theorem dX2_setRates_29 : decode cX2_setRates 29 = .ok (.if_icmp .le 13, 3) := by decide +kernel
theorem dX2_setRates_32 : decode cX2_setRates 32 = .ok (.new 66, 3) := by decide +kernel
theorem dX2_setRates_35 : decode cX2_setRates 35 = .ok (.dup, 1) := by decide +kernel
theorem dX2_setRates_36 : decode cX2_setRates 36 = .ok (.ldc 73, 2) := by decide +kernel
theorem dX2_setRates_38 : decode cX2_setRates 38 = .ok (.invokespecial 70, 3) := by decide +kernel
theorem dX2_setRates_41 : decode cX2_setRates 41 = .ok (.athrow, 1) := by decide +kernel
theorem dX2_setRates_42 : decode cX2_setRates 42 = .ok (.iload_n 3, 1) := by decide +kernel
theorem dX2_setRates_43 : decode cX2_setRates 43 = .ok (.ifCond .lt 9, 3) := by decide +kernel
theorem dX2_setRates_46 : decode cX2_setRates 46 = .ok (.iload_n 3, 1) := by decide +kernel
theorem dX2_setRates_47 : decode cX2_setRates 47 = .ok (.bipush 100, 2) := by decide +kernel
theorem dX2_setRates_49 : decode cX2_setRates 49 = .ok (.if_icmp .le 13, 3) := by decide +kernel
theorem dX2_setRates_52 : decode cX2_setRates 52 = .ok (.new 66, 3) := by decide +kernel
theorem dX2_setRates_55 : decode cX2_setRates 55 = .ok (.dup, 1) := by decide +kernel
theorem dX2_setRates_56 : decode cX2_setRates 56 = .ok (.ldc 75, 2) := by decide +kernel
theorem dX2_setRates_58 : decode cX2_setRates 58 = .ok (.invokespecial 70, 3) := by decide +kernel
theorem dX2_setRates_61 : decode cX2_setRates 61 = .ok (.athrow, 1) := by decide +kernel
theorem dX2_setRates_62 : decode cX2_setRates 62 = .ok (.aload_n 0, 1) := by decide +kernel
theorem dX2_setRates_63 : decode cX2_setRates 63 = .ok (.iload_n 1, 1) := by decide +kernel
theorem dX2_setRates_64 : decode cX2_setRates 64 = .ok (.putfield 13, 3) := by decide +kernel
theorem dX2_setRates_67 : decode cX2_setRates 67 = .ok (.aload_n 0, 1) := by decide +kernel
theorem dX2_setRates_68 : decode cX2_setRates 68 = .ok (.iload_n 2, 1) := by decide +kernel
theorem dX2_setRates_69 : decode cX2_setRates 69 = .ok (.putfield 17, 3) := by decide +kernel
theorem dX2_setRates_72 : decode cX2_setRates 72 = .ok (.aload_n 0, 1) := by decide +kernel
theorem dX2_setRates_73 : decode cX2_setRates 73 = .ok (.iload_n 3, 1) := by decide +kernel
theorem dX2_setRates_74 : decode cX2_setRates 74 = .ok (.putfield 20, 3) := by decide +kernel
theorem dX2_setRates_77 : decode cX2_setRates 77 = .ok (.return_, 1) := by decide +kernel
set_option maxRecDepth 20000 in
theorem ggX2_lend_X2_cutIntoParts : GoodIn wsX2_lend wsX2_cutIntoParts := goodIn_r _ [24, 25] (by decide +kernel) (by decide +kernel)
set_option maxRecDepth 20000 in
theorem gX2_lend_X2_cutIntoParts : GoodIn wsX2_lend (va_wsS RX2 89 yX2_cutIntoParts wsX2_cutIntoParts) := goodIn_app (goodIn_of _ (by decide +kernel)) ggX2_lend_X2_cutIntoParts
set_option maxRecDepth 20000 in
theorem ggX2_lend_X0_init : GoodIn wsX2_lend wsX0_init := goodIn_r _ [27, 28, 29, 30, 31, 32, 33, 34, 35, 36, 37, 38, 52, 53, 54, 55, 56, 57, 58, 59] (by decide +kernel) (by decide +kernel)
set_option maxRecDepth 20000 in
theorem gX2_lend_X0_init_n98 : GoodIn wsX2_lend (wsX0_init) := ggX2_lend_X0_init
theorem dX2_lend_0 : decode cX2_lend 0 = .ok (.iload_n 1, 1) := by decide +kernel
theorem dX2_lend_1 : decode cX2_lend 1 = .ok (.ifCond .lt 17, 3) := by decide +kernel
theorem dX2_lend_4 : decode cX2_lend 4 = .ok (.iload_n 1, 1) := by decide +kernel
theorem dX2_lend_5 : decode cX2_lend 5 = .ok (.iconst 3, 1) := by decide +kernel
theorem dX2_lend_6 : decode cX2_lend 6 = .ok (.if_icmp .ge 12, 3) := by decide +kernel
theorem dX2_lend_9 : decode cX2_lend 9 = .ok (.iload_n 2, 1) := by decide +kernel
theorem dX2_lend_10 : decode cX2_lend 10 = .ok (.ifCond .lt 8, 3) := by decide +kernel
theorem dX2_lend_13 : decode cX2_lend 13 = .ok (.iload_n 2, 1) := by decide +kernel
theorem dX2_lend_14 : decode cX2_lend 14 = .ok (.iconst 3, 1) := by decide +kernel
theorem dX2_lend_15 : decode cX2_lend 15 = .ok (.if_icmp .lt 13, 3) := by decide +kernel
theorem dX2_lend_18 : decode cX2_lend 18 = .ok (.new 59, 3) := by decide +kernel
theorem dX2_lend_21 : decode cX2_lend 21 = .ok (.dup, 1) := by decide +kernel
theorem dX2_lend_22 : decode cX2_lend 22 = .ok (.ldc 77, 2) := by decide +kernel
theorem dX2_lend_24 : decode cX2_lend 24 = .ok (.invokespecial 63, 3) := by decide +kernel
theorem dX2_lend_27 : decode cX2_lend 27 = .ok (.athrow, 1) := by decide +kernel
theorem dX2_lend_28 : decode cX2_lend 28 = .ok (.iload_n 3, 1) := by decide +kernel
theorem dX2_lend_29 : decode cX2_lend 29 = .ok (.iconst 1, 1) := by decide +kernel
theorem dX2_lend_30 : decode cX2_lend 30 = .ok (.if_icmp .lt 9, 3) := by decide +kernel
theorem dX2_lend_33 : decode cX2_lend 33 = .ok (.iload_n 3, 1) := by decide +kernel
theorem dX2_lend_34 : decode cX2_lend 34 = .ok (.ldc 79, 2) := by decide +kernel
theorem dX2_lend_36 : decode cX2_lend 36 = .ok (.if_icmp .le 13, 3) := by decide +kernel
theorem dX2_lend_39 : decode cX2_lend 39 = .ok (.new 66, 3) := by decide +kernel
theorem dX2_lend_42 : decode cX2_lend 42 = .ok (.dup, 1) := by decide +kernel
theorem dX2_lend_43 : decode cX2_lend 43 = .ok (.ldc 80, 2) := by decide +kernel
theorem dX2_lend_45 : decode cX2_lend 45 = .ok (.invokespecial 70, 3) := by decide +kernel
theorem dX2_lend_48 : decode cX2_lend 48 = .ok (.athrow, 1) := by decide +kernel
theorem dX2_lend_49 : decode cX2_lend 49 = .ok (.iload 4, 2) := by decide +kernel
theorem dX2_lend_51 : decode cX2_lend 51 = .ok (.ifCond .lt 11, 3) := by decide +kernel
theorem dX2_lend_54 : decode cX2_lend 54 = .ok (.iload 4, 2) := by decide +kernel
theorem dX2_lend_56 : decode cX2_lend 56 = .ok (.sipush 5000, 3) := by decide +kernel
theorem dX2_lend_59 : decode cX2_lend 59 = .ok (.if_icmp .le 13, 3) := by decide +kernel
theorem dX2_lend_62 : decode cX2_lend 62 = .ok (.new 66, 3) := by decide +kernel
theorem dX2_lend_65 : decode cX2_lend 65 = .ok (.dup, 1) := by decide +kernel
theorem dX2_lend_66 : decode cX2_lend 66 = .ok (.ldc 68, 2) := by decide +kernel
theorem dX2_lend_68 : decode cX2_lend 68 = .ok (.invokespecial 70, 3) := by decide +kernel
theorem dX2_lend_71 : decode cX2_lend 71 = .ok (.athrow, 1) := by decide +kernel
theorem dX2_lend_72 : decode cX2_lend 72 = .ok (.iload 5, 2) := by decide +kernel
theorem dX2_lend_74 : decode cX2_lend 74 = .ok (.iconst 1, 1) := by decide +kernel
theorem dX2_lend_75 : decode cX2_lend 75 = .ok (.if_icmp .lt 10, 3) := by decide +kernel
theorem dX2_lend_78 : decode cX2_lend 78 = .ok (.iload 5, 2) := by decide +kernel
theorem dX2_lend_80 : decode cX2_lend 80 = .ok (.bipush 6, 2) := by decide +kernel
theorem dX2_lend_82 : decode cX2_lend 82 = .ok (.if_icmp .le 13, 3) := by decide +kernel
theorem dX2_lend_85 : decode cX2_lend 85 = .ok (.new 66, 3) := by decide +kernel
theorem dX2_lend_88 : decode cX2_lend 88 = .ok (.dup, 1) := by decide +kernel
theorem dX2_lend_89 : decode cX2_lend 89 = .ok (.ldc 82, 2) := by decide +kernel
theorem dX2_lend_91 : decode cX2_lend 91 = .ok (.invokespecial 70, 3) := by decide +kernel
theorem dX2_lend_94 : decode cX2_lend 94 = .ok (.athrow, 1) := by decide +kernel
theorem dX2_lend_95 : decode cX2_lend 95 = .ok (.aload_n 0, 1) := by decide +kernel
theorem dX2_lend_96 : decode cX2_lend 96 = .ok (.getfield 32, 3) := by decide +kernel
theorem dX2_lend_99 : decode cX2_lend 99 = .ok (.bipush 24, 2) := by decide +kernel
theorem dX2_lend_101 : decode cX2_lend 101 = .ok (.if_icmp .lt 13, 3) := by decide +kernel
theorem dX2_lend_104 : decode cX2_lend 104 = .ok (.new 84, 3) := by decide +kernel
theorem dX2_lend_107 : decode cX2_lend 107 = .ok (.dup, 1) := by decide +kernel
theorem dX2_lend_108 : decode cX2_lend 108 = .ok (.ldc 86, 2) := by decide +kernel
theorem dX2_lend_110 : decode cX2_lend 110 = .ok (.invokespecial 88, 3) := by decide +kernel
theorem dX2_lend_113 : decode cX2_lend 113 = .ok (.athrow, 1) := by decide +kernel
theorem dX2_lend_114 : decode cX2_lend 114 = .ok (.iload_n 3, 1) := by decide +kernel
theorem dX2_lend_115 : decode cX2_lend 115 = .ok (.iload_n 3, 1) := by decide +kernel
theorem dX2_lend_116 : decode cX2_lend 116 = .ok (.iload 5, 2) := by decide +kernel
theorem dX2_lend_118 : decode cX2_lend 118 = .ok (.idiv, 1) := by decide +kernel
theorem dX2_lend_119 : decode cX2_lend 119 = .ok (.iload 5, 2) := by decide +kernel
theorem dX2_lend_121 : decode cX2_lend 121 = .ok (.invokestatic 89, 3) := by decide +kernel
theorem dX2_lend_124 : decode cX2_lend 124 = .ok (.astore 7, 2) := by decide +kernel
theorem dX2_lend_126 : decode cX2_lend 126 = .ok (.iload 6, 2) := by decide +kernel
theorem dX2_lend_128 : decode cX2_lend 128 = .ok (.ifCond .eq 10, 3) := by decide +kernel
theorem dX2_lend_131 : decode cX2_lend 131 = .ok (.aload_n 0, 1) := by decide +kernel
theorem dX2_lend_132 : decode cX2_lend 132 = .ok (.getfield 17, 3) := by decide +kernel
theorem dX2_lend_135 : decode cX2_lend 135 = .ok (.goto 4, 3) := by decide +kernel
theorem dX2_lend_138 : decode cX2_lend 138 = .ok (.iconst 0, 1) := by decide +kernel
theorem dX2_lend_139 : decode cX2_lend 139 = .ok (.istore 8, 2) := by decide +kernel
theorem dX2_lend_141 : decode cX2_lend 141 = .ok (.aload_n 0, 1) := by decide +kernel
theorem dX2_lend_142 : decode cX2_lend 142 = .ok (.getfield 32, 3) := by decide +kernel
theorem dX2_lend_145 : decode cX2_lend 145 = .ok (.istore 9, 2) := by decide +kernel
theorem dX2_lend_147 : decode cX2_lend 147 = .ok (.aload_n 0, 1) := by decide +kernel
theorem dX2_lend_148 : decode cX2_lend 148 = .ok (.getfield 28, 3) := by decide +kernel
theorem dX2_lend_151 : decode cX2_lend 151 = .ok (.iload 9, 2) := by decide +kernel
theorem dX2_lend_153 : decode cX2_lend 153 = .ok (.new 26, 3) := by decide +kernel
theorem dX2_lend_156 : decode cX2_lend 156 = .ok (.dup, 1) := by decide +kernel
theorem dX2_lend_157 : decode cX2_lend 157 = .ok (.iload_n 1, 1) := by decide +kernel
theorem dX2_lend_158 : decode cX2_lend 158 = .ok (.iload_n 2, 1) := by decide +kernel
theorem dX2_lend_159 : decode cX2_lend 159 = .ok (.iload 4, 2) := by decide +kernel
theorem dX2_lend_161 : decode cX2_lend 161 = .ok (.iload 6, 2) := by decide +kernel
theorem dX2_lend_163 : decode cX2_lend 163 = .ok (.iload 8, 2) := by decide +kernel
theorem dX2_lend_165 : decode cX2_lend 165 = .ok (.aload 7, 2) := by decide +kernel
theorem dX2_lend_167 : decode cX2_lend 167 = .ok (.aload_n 0, 1) := by decide +kernel
theorem dX2_lend_168 : decode cX2_lend 168 = .ok (.getfield 9, 3) := by decide +kernel
theorem dX2_lend_171 : decode cX2_lend 171 = .ok (.invokevirtual 93, 3) := by decide +kernel
theorem dX2_lend_174 : decode cX2_lend 174 = .ok (.checkcast 94, 3) := by decide +kernel
theorem dX2_lend_177 : decode cX2_lend 177 = .ok (.invokespecial 98, 3) := by decide +kernel
theorem dX2_lend_180 : decode cX2_lend 180 = .ok (.aastore, 1) := by decide +kernel
theorem dX2_lend_181 : decode cX2_lend 181 = .ok (.aload_n 0, 1) := by decide +kernel
theorem dX2_lend_182 : decode cX2_lend 182 = .ok (.iload 9, 2) := by decide +kernel
theorem dX2_lend_184 : decode cX2_lend 184 = .ok (.iconst 1, 1) := by decide +kernel
theorem dX2_lend_185 : decode cX2_lend 185 = .ok (.iadd, 1) := by decide +kernel
theorem dX2_lend_186 : decode cX2_lend 186 = .ok (.putfield 32, 3) := by decide +kernel
theorem dX2_lend_189 : decode cX2_lend 189 = .ok (.iload 9, 2) := by decide +kernel
theorem dX2_lend_191 : decode cX2_lend 191 = .ok (.ireturn, 1) := by decide +kernel
set_option maxRecDepth 20000 in
theorem ggX2_repay_X2_findLoan : GoodIn wsX2_repay wsX2_findLoan := goodIn_r _ [9, 10, 28, 29, 30, 31, 32, 33, 34, 35, 36, 37, 38, 39, 40] (by decide +kernel) (by decide +kernel)
set_option maxRecDepth 20000 in
theorem gX2_repay_X2_findLoan : GoodIn wsX2_repay (wsV RX2 101 RX2 yX2_findLoan wsX2_findLoan) := goodIn_app (goodIn_of _ (by decide +kernel)) ggX2_repay_X2_findLoan
set_option maxRecDepth 20000 in
theorem ggX2_repay_X0_unpaid : GoodIn wsX2_repay wsX0_unpaid := goodIn_r _ [14, 15, 16, 20, 21, 22, 23, 24, 25, 26, 27] (by decide +kernel) (by decide +kernel)
set_option maxRecDepth 20000 in
theorem gX2_repay_X0_unpaid_n107 : GoodIn wsX2_repay (wsX0_unpaid) := ggX2_repay_X0_unpaid
set_option maxRecDepth 20000 in
theorem ggX2_repay_X0_settle : GoodIn wsX2_repay wsX0_settle := goodIn_r _ [19, 15, 20, 21, 22, 23, 24, 25, 26, 27] (by decide +kernel) (by decide +kernel)
set_option maxRecDepth 20000 in
theorem gX2_repay_X0_settle_n117 : GoodIn wsX2_repay (wsX0_settle) := ggX2_repay_X0_settle
theorem dX2_repay_0 : decode cX2_repay 0 = .ok (.aload_n 0, 1) := by decide +kernel
theorem dX2_repay_1 : decode cX2_repay 1 = .ok (.iload_n 1, 1) := by decide +kernel
theorem dX2_repay_2 : decode cX2_repay 2 = .ok (.invokevirtual 101, 3) := by decide +kernel
theorem dX2_repay_5 : decode cX2_repay 5 = .ok (.astore_n 2, 1) := by decide +kernel
theorem dX2_repay_6 : decode cX2_repay 6 = .ok (.aload_n 2, 1) := by decide +kernel
theorem dX2_repay_7 : decode cX2_repay 7 = .ok (.ifnonnull 13, 3) := by decide +kernel
theorem dX2_repay_10 : decode cX2_repay 10 = .ok (.new 59, 3) := by decide +kernel
theorem dX2_repay_13 : decode cX2_repay 13 = .ok (.dup, 1) := by decide +kernel
theorem dX2_repay_14 : decode cX2_repay 14 = .ok (.ldc 105, 2) := by decide +kernel
theorem dX2_repay_16 : decode cX2_repay 16 = .ok (.invokespecial 63, 3) := by decide +kernel
theorem dX2_repay_19 : decode cX2_repay 19 = .ok (.athrow, 1) := by decide +kernel
theorem dX2_repay_20 : decode cX2_repay 20 = .ok (.aload_n 2, 1) := by decide +kernel
theorem dX2_repay_21 : decode cX2_repay 21 = .ok (.invokevirtual 107, 3) := by decide +kernel
theorem dX2_repay_24 : decode cX2_repay 24 = .ok (.istore_n 3, 1) := by decide +kernel
theorem dX2_repay_25 : decode cX2_repay 25 = .ok (.aload_n 2, 1) := by decide +kernel
theorem dX2_repay_26 : decode cX2_repay 26 = .ok (.getfield 111, 3) := by decide +kernel
theorem dX2_repay_29 : decode cX2_repay 29 = .ok (.ifCond .eq 7, 3) := by decide +kernel
theorem dX2_repay_32 : decode cX2_repay 32 = .ok (.iload_n 3, 1) := by decide +kernel
theorem dX2_repay_33 : decode cX2_repay 33 = .ok (.ifCond .ne 13, 3) := by decide +kernel
theorem dX2_repay_36 : decode cX2_repay 36 = .ok (.new 84, 3) := by decide +kernel
theorem dX2_repay_39 : decode cX2_repay 39 = .ok (.dup, 1) := by decide +kernel
theorem dX2_repay_40 : decode cX2_repay 40 = .ok (.ldc 115, 2) := by decide +kernel
theorem dX2_repay_42 : decode cX2_repay 42 = .ok (.invokespecial 88, 3) := by decide +kernel
theorem dX2_repay_45 : decode cX2_repay 45 = .ok (.athrow, 1) := by decide +kernel
theorem dX2_repay_46 : decode cX2_repay 46 = .ok (.aload_n 2, 1) := by decide +kernel
theorem dX2_repay_47 : decode cX2_repay 47 = .ok (.invokevirtual 117, 3) := by decide +kernel
theorem dX2_repay_50 : decode cX2_repay 50 = .ok (.iload_n 3, 1) := by decide +kernel
theorem dX2_repay_51 : decode cX2_repay 51 = .ok (.ireturn, 1) := by decide +kernel
set_option maxRecDepth 20000 in
theorem ggX2_deposit_X2_trancheAmount : GoodIn wsX2_deposit wsX2_trancheAmount := goodIn_r _ [17, 9, 18, 19, 20, 16, 21, 22, 23, 34, 35, 36, 37, 38, 39, 40, 41, 42, 43, 44, 45, 46] (by decide +kernel) (by decide +kernel)
set_option maxRecDepth 20000 in
theorem gX2_deposit_X2_trancheAmount : GoodIn wsX2_deposit (wsV RX2 127 RX2 yX2_trancheAmount wsX2_trancheAmount) := goodIn_app (goodIn_of _ (by decide +kernel)) ggX2_deposit_X2_trancheAmount
set_option maxRecDepth 20000 in
theorem ggX2_deposit_X1_layAll : GoodIn wsX2_deposit wsX1_layAll := goodIn_r _ [27, 28, 29, 30, 25, 31, 32, 33, 47, 48] (by decide +kernel) (by decide +kernel)
set_option maxRecDepth 20000 in
theorem gX2_deposit_X1_layAll_n130 : GoodIn wsX2_deposit (wsX1_layAll) := ggX2_deposit_X1_layAll
theorem dX2_deposit_0 : decode cX2_deposit 0 = .ok (.iload_n 1, 1) := by decide +kernel
theorem dX2_deposit_1 : decode cX2_deposit 1 = .ok (.ifCond .lt 8, 3) := by decide +kernel
theorem dX2_deposit_4 : decode cX2_deposit 4 = .ok (.iload_n 1, 1) := by decide +kernel
theorem dX2_deposit_5 : decode cX2_deposit 5 = .ok (.iconst 3, 1) := by decide +kernel
theorem dX2_deposit_6 : decode cX2_deposit 6 = .ok (.if_icmp .lt 13, 3) := by decide +kernel
theorem dX2_deposit_9 : decode cX2_deposit 9 = .ok (.new 59, 3) := by decide +kernel
theorem dX2_deposit_12 : decode cX2_deposit 12 = .ok (.dup, 1) := by decide +kernel
theorem dX2_deposit_13 : decode cX2_deposit 13 = .ok (.ldc 120, 2) := by decide +kernel
theorem dX2_deposit_15 : decode cX2_deposit 15 = .ok (.invokespecial 63, 3) := by decide +kernel
theorem dX2_deposit_18 : decode cX2_deposit 18 = .ok (.athrow, 1) := by decide +kernel
theorem dX2_deposit_19 : decode cX2_deposit 19 = .ok (.iload_n 2, 1) := by decide +kernel
theorem dX2_deposit_20 : decode cX2_deposit 20 = .ok (.ldc 122, 2) := by decide +kernel
theorem dX2_deposit_22 : decode cX2_deposit 22 = .ok (.if_icmp .lt 9, 3) := by decide +kernel
theorem dX2_deposit_25 : decode cX2_deposit 25 = .ok (.iload_n 2, 1) := by decide +kernel
theorem dX2_deposit_26 : decode cX2_deposit 26 = .ok (.ldc 79, 2) := by decide +kernel
theorem dX2_deposit_28 : decode cX2_deposit 28 = .ok (.if_icmp .le 13, 3) := by decide +kernel
theorem dX2_deposit_31 : decode cX2_deposit 31 = .ok (.new 66, 3) := by decide +kernel
theorem dX2_deposit_34 : decode cX2_deposit 34 = .ok (.dup, 1) := by decide +kernel
theorem dX2_deposit_35 : decode cX2_deposit 35 = .ok (.ldc 123, 2) := by decide +kernel
theorem dX2_deposit_37 : decode cX2_deposit 37 = .ok (.invokespecial 70, 3) := by decide +kernel
theorem dX2_deposit_40 : decode cX2_deposit 40 = .ok (.athrow, 1) := by decide +kernel
theorem dX2_deposit_41 : decode cX2_deposit 41 = .ok (.aload_n 0, 1) := by decide +kernel
theorem dX2_deposit_42 : decode cX2_deposit 42 = .ok (.getfield 35, 3) := by decide +kernel
theorem dX2_deposit_45 : decode cX2_deposit 45 = .ok (.iload_n 1, 1) := by decide +kernel
theorem dX2_deposit_46 : decode cX2_deposit 46 = .ok (.iaload, 1) := by decide +kernel
theorem dX2_deposit_47 : decode cX2_deposit 47 = .ok (.iload_n 2, 1) := by decide +kernel
theorem dX2_deposit_48 : decode cX2_deposit 48 = .ok (.iadd, 1) := by decide +kernel
theorem dX2_deposit_49 : decode cX2_deposit 49 = .ok (.istore_n 3, 1) := by decide +kernel
theorem dX2_deposit_50 : decode cX2_deposit 50 = .ok (.iload_n 3, 1) := by decide +kernel
theorem dX2_deposit_51 : decode cX2_deposit 51 = .ok (.ifCond .lt 9, 3) := by decide +kernel
theorem dX2_deposit_54 : decode cX2_deposit 54 = .ok (.iload_n 3, 1) := by decide +kernel
theorem dX2_deposit_55 : decode cX2_deposit 55 = .ok (.ldc 79, 2) := by decide +kernel
theorem dX2_deposit_57 : decode cX2_deposit 57 = .ok (.if_icmp .le 13, 3) := by decide +kernel
theorem dX2_deposit_60 : decode cX2_deposit 60 = .ok (.new 84, 3) := by decide +kernel
theorem dX2_deposit_63 : decode cX2_deposit 63 = .ok (.dup, 1) := by decide +kernel
theorem dX2_deposit_64 : decode cX2_deposit 64 = .ok (.ldc 125, 2) := by decide +kernel
theorem dX2_deposit_66 : decode cX2_deposit 66 = .ok (.invokespecial 88, 3) := by decide +kernel
theorem dX2_deposit_69 : decode cX2_deposit 69 = .ok (.athrow, 1) := by decide +kernel
theorem dX2_deposit_70 : decode cX2_deposit 70 = .ok (.aload_n 0, 1) := by decide +kernel
theorem dX2_deposit_71 : decode cX2_deposit 71 = .ok (.getfield 35, 3) := by decide +kernel
theorem dX2_deposit_74 : decode cX2_deposit 74 = .ok (.iload_n 1, 1) := by decide +kernel
theorem dX2_deposit_75 : decode cX2_deposit 75 = .ok (.iload_n 3, 1) := by decide +kernel
theorem dX2_deposit_76 : decode cX2_deposit 76 = .ok (.iastore, 1) := by decide +kernel
theorem dX2_deposit_77 : decode cX2_deposit 77 = .ok (.aload_n 0, 1) := by decide +kernel
theorem dX2_deposit_78 : decode cX2_deposit 78 = .ok (.getfield 23, 3) := by decide +kernel
theorem dX2_deposit_81 : decode cX2_deposit 81 = .ok (.ifCond .ne 24, 3) := by decide +kernel
theorem dX2_deposit_84 : decode cX2_deposit 84 = .ok (.iload_n 2, 1) := by decide +kernel
theorem dX2_deposit_85 : decode cX2_deposit 85 = .ok (.ifCond .eq 20, 3) := by decide +kernel
theorem dX2_deposit_88 : decode cX2_deposit 88 = .ok (.aload_n 0, 1) := by decide +kernel
theorem dX2_deposit_89 : decode cX2_deposit 89 = .ok (.getfield 41, 3) := by decide +kernel
theorem dX2_deposit_92 : decode cX2_deposit 92 = .ok (.aload_n 0, 1) := by decide +kernel
theorem dX2_deposit_93 : decode cX2_deposit 93 = .ok (.invokevirtual 127, 3) := by decide +kernel
theorem dX2_deposit_96 : decode cX2_deposit 96 = .ok (.aload_n 0, 1) := by decide +kernel
theorem dX2_deposit_97 : decode cX2_deposit 97 = .ok (.getfield 9, 3) := by decide +kernel
theorem dX2_deposit_100 : decode cX2_deposit 100 = .ok (.iconst 5, 1) := by decide +kernel
theorem dX2_deposit_101 : decode cX2_deposit 101 = .ok (.iaload, 1) := by decide +kernel
theorem dX2_deposit_102 : decode cX2_deposit 102 = .ok (.invokevirtual 130, 3) := by decide +kernel
theorem dX2_deposit_105 : decode cX2_deposit 105 = .ok (.iload_n 3, 1) := by decide +kernel
theorem dX2_deposit_106 : decode cX2_deposit 106 = .ok (.ireturn, 1) := by decide +kernel
set_option maxRecDepth 20000 in
theorem ggX2_closeMonth_X2_reckonLoans : GoodIn wsX2_closeMonth wsX2_reckonLoans := goodIn_r _ [10, 11, 3, 12, 13, 14, 15, 16, 17, 18, 9, 19, 20, 21, 22, 23, 24, 25, 26, 27, 28, 29, 30, 31, 32, 33, 34, 35, 36, 37, 38, 39, 40, 41, 42, 43, 44, 45, 46, 47, 48, 49, 50, 51, 89, 90, 91, 92, 93, 94, 95, 96, 97, 98, 99, 100, 101, 102, 103, 104, 105, 106, 107, 108, 109] (by decide +kernel) (by decide +kernel)
set_option maxRecDepth 20000 in
theorem gX2_closeMonth_X2_reckonLoans : GoodIn wsX2_closeMonth (wsV RX2 136 RX2 yX2_reckonLoans wsX2_reckonLoans) := goodIn_app (goodIn_of _ (by decide +kernel)) ggX2_closeMonth_X2_reckonLoans
set_option maxRecDepth 20000 in
theorem ggX2_closeMonth_X2_reckonDeposits : GoodIn wsX2_closeMonth wsX2_reckonDeposits := goodIn_r _ [55, 4, 56, 57, 11, 3, 14, 15, 58, 59, 60, 61, 62, 63, 64, 65, 66, 9, 67, 5, 68, 69, 70, 71, 72, 73, 74, 35, 36, 37, 89, 90, 91, 92, 93, 94, 95, 96, 97, 98, 99, 100, 101, 110, 111] (by decide +kernel) (by decide +kernel)
set_option maxRecDepth 20000 in
theorem gX2_closeMonth_X2_reckonDeposits : GoodIn wsX2_closeMonth (wsV RX2 139 RX2 yX2_reckonDeposits wsX2_reckonDeposits) := goodIn_app (goodIn_of _ (by decide +kernel)) ggX2_closeMonth_X2_reckonDeposits
set_option maxRecDepth 20000 in
theorem ggX2_closeMonth_X2_payParts : GoodIn wsX2_closeMonth wsX2_payParts := goodIn_r _ [78, 13, 79, 21, 80, 81, 33, 89, 90, 91, 92, 93, 94, 95, 96, 97, 98, 99, 100, 101, 102, 103, 104, 105, 106, 107, 108, 109] (by decide +kernel) (by decide +kernel)
set_option maxRecDepth 20000 in
theorem gX2_closeMonth_X2_payParts : GoodIn wsX2_closeMonth (wsV RX2 142 RX2 yX2_payParts wsX2_payParts) := goodIn_app (goodIn_of _ (by decide +kernel)) ggX2_closeMonth_X2_payParts
set_option maxRecDepth 20000 in
theorem ggX2_closeMonth_X2_trancheAmount : GoodIn wsX2_closeMonth wsX2_trancheAmount := goodIn_r _ [85, 56, 68, 69, 70, 9, 71, 72, 73, 89, 90, 91, 92, 93, 94, 95, 96, 97, 98, 99, 100, 101] (by decide +kernel) (by decide +kernel)
set_option maxRecDepth 20000 in
theorem gX2_closeMonth_X2_trancheAmount : GoodIn wsX2_closeMonth (wsV RX2 127 RX2 yX2_trancheAmount wsX2_trancheAmount) := goodIn_app (goodIn_of _ (by decide +kernel)) ggX2_closeMonth_X2_trancheAmount
set_option maxRecDepth 20000 in
theorem ggX2_closeMonth_X1_lay : GoodIn wsX2_closeMonth wsX1_lay := goodIn_r _ [88, 62, 63, 110, 111] (by decide +kernel) (by decide +kernel)
set_option maxRecDepth 20000 in
theorem gX2_closeMonth_X1_lay_n145 : GoodIn wsX2_closeMonth (wsX1_lay) := ggX2_closeMonth_X1_lay
theorem dX2_closeMonth_0 : decode cX2_closeMonth 0 = .ok (.aload_n 0, 1) := by decide +kernel
theorem dX2_closeMonth_1 : decode cX2_closeMonth 1 = .ok (.getfield 23, 3) := by decide +kernel
theorem dX2_closeMonth_4 : decode cX2_closeMonth 4 = .ok (.bipush 47, 2) := by decide +kernel
theorem dX2_closeMonth_6 : decode cX2_closeMonth 6 = .ok (.if_icmp .lt 13, 3) := by decide +kernel
theorem dX2_closeMonth_9 : decode cX2_closeMonth 9 = .ok (.new 84, 3) := by decide +kernel
theorem dX2_closeMonth_12 : decode cX2_closeMonth 12 = .ok (.dup, 1) := by decide +kernel
theorem dX2_closeMonth_13 : decode cX2_closeMonth 13 = .ok (.ldc 134, 2) := by decide +kernel
theorem dX2_closeMonth_15 : decode cX2_closeMonth 15 = .ok (.invokespecial 88, 3) := by decide +kernel
theorem dX2_closeMonth_18 : decode cX2_closeMonth 18 = .ok (.athrow, 1) := by decide +kernel
theorem dX2_closeMonth_19 : decode cX2_closeMonth 19 = .ok (.aload_n 0, 1) := by decide +kernel
theorem dX2_closeMonth_20 : decode cX2_closeMonth 20 = .ok (.invokevirtual 136, 3) := by decide +kernel
theorem dX2_closeMonth_23 : decode cX2_closeMonth 23 = .ok (.aload_n 0, 1) := by decide +kernel
theorem dX2_closeMonth_24 : decode cX2_closeMonth 24 = .ok (.invokevirtual 139, 3) := by decide +kernel
theorem dX2_closeMonth_27 : decode cX2_closeMonth 27 = .ok (.aload_n 0, 1) := by decide +kernel
theorem dX2_closeMonth_28 : decode cX2_closeMonth 28 = .ok (.invokevirtual 142, 3) := by decide +kernel
theorem dX2_closeMonth_31 : decode cX2_closeMonth 31 = .ok (.aload_n 0, 1) := by decide +kernel
theorem dX2_closeMonth_32 : decode cX2_closeMonth 32 = .ok (.aload_n 0, 1) := by decide +kernel
theorem dX2_closeMonth_33 : decode cX2_closeMonth 33 = .ok (.getfield 23, 3) := by decide +kernel
theorem dX2_closeMonth_36 : decode cX2_closeMonth 36 = .ok (.iconst 1, 1) := by decide +kernel
theorem dX2_closeMonth_37 : decode cX2_closeMonth 37 = .ok (.iadd, 1) := by decide +kernel
theorem dX2_closeMonth_38 : decode cX2_closeMonth 38 = .ok (.putfield 23, 3) := by decide +kernel
theorem dX2_closeMonth_41 : decode cX2_closeMonth 41 = .ok (.aload_n 0, 1) := by decide +kernel
theorem dX2_closeMonth_42 : decode cX2_closeMonth 42 = .ok (.getfield 41, 3) := by decide +kernel
theorem dX2_closeMonth_45 : decode cX2_closeMonth 45 = .ok (.aload_n 0, 1) := by decide +kernel
theorem dX2_closeMonth_46 : decode cX2_closeMonth 46 = .ok (.getfield 23, 3) := by decide +kernel
theorem dX2_closeMonth_49 : decode cX2_closeMonth 49 = .ok (.bipush 6, 2) := by decide +kernel
theorem dX2_closeMonth_51 : decode cX2_closeMonth 51 = .ok (.irem, 1) := by decide +kernel
theorem dX2_closeMonth_52 : decode cX2_closeMonth 52 = .ok (.aload_n 0, 1) := by decide +kernel
theorem dX2_closeMonth_53 : decode cX2_closeMonth 53 = .ok (.invokevirtual 127, 3) := by decide +kernel
theorem dX2_closeMonth_56 : decode cX2_closeMonth 56 = .ok (.aload_n 0, 1) := by decide +kernel
theorem dX2_closeMonth_57 : decode cX2_closeMonth 57 = .ok (.getfield 9, 3) := by decide +kernel
theorem dX2_closeMonth_60 : decode cX2_closeMonth 60 = .ok (.iconst 5, 1) := by decide +kernel
theorem dX2_closeMonth_61 : decode cX2_closeMonth 61 = .ok (.iaload, 1) := by decide +kernel
theorem dX2_closeMonth_62 : decode cX2_closeMonth 62 = .ok (.invokevirtual 145, 3) := by decide +kernel
theorem dX2_closeMonth_65 : decode cX2_closeMonth 65 = .ok (.aload_n 0, 1) := by decide +kernel
theorem dX2_closeMonth_66 : decode cX2_closeMonth 66 = .ok (.getfield 23, 3) := by decide +kernel
theorem dX2_closeMonth_69 : decode cX2_closeMonth 69 = .ok (.ireturn, 1) := by decide +kernel
theorem dX2_month_0 : decode cX2_month 0 = .ok (.aload_n 0, 1) := by decide +kernel
theorem dX2_month_1 : decode cX2_month 1 = .ok (.getfield 23, 3) := by decide +kernel
theorem dX2_month_4 : decode cX2_month 4 = .ok (.ireturn, 1) := by decide +kernel
theorem dX2_loans_0 : decode cX2_loans 0 = .ok (.aload_n 0, 1) := by decide +kernel
theorem dX2_loans_1 : decode cX2_loans 1 = .ok (.getfield 32, 3) := by decide +kernel
theorem dX2_loans_4 : decode cX2_loans 4 = .ok (.ireturn, 1) := by decide +kernel
set_option maxRecDepth 20000 in
theorem ggX2_left_X2_findLoan : GoodIn wsX2_left wsX2_findLoan := goodIn_r _ [7, 8, 15, 16, 17, 18, 19, 20, 21, 22, 23, 24, 25, 26, 27] (by decide +kernel) (by decide +kernel)
set_option maxRecDepth 20000 in
theorem gX2_left_X2_findLoan : GoodIn wsX2_left (wsV RX2 101 RX2 yX2_findLoan wsX2_findLoan) := goodIn_app (goodIn_of _ (by decide +kernel)) ggX2_left_X2_findLoan
set_option maxRecDepth 20000 in
theorem ggX2_left_X0_unpaid : GoodIn wsX2_left wsX0_unpaid := goodIn_r _ [12, 13, 14, 28, 29, 30, 31, 32, 33, 34, 35] (by decide +kernel) (by decide +kernel)
set_option maxRecDepth 20000 in
theorem gX2_left_X0_unpaid_n107 : GoodIn wsX2_left (wsX0_unpaid) := ggX2_left_X0_unpaid
theorem dX2_left_0 : decode cX2_left 0 = .ok (.aload_n 0, 1) := by decide +kernel
theorem dX2_left_1 : decode cX2_left 1 = .ok (.iload_n 1, 1) := by decide +kernel
theorem dX2_left_2 : decode cX2_left 2 = .ok (.invokevirtual 101, 3) := by decide +kernel
theorem dX2_left_5 : decode cX2_left 5 = .ok (.astore_n 2, 1) := by decide +kernel
theorem dX2_left_6 : decode cX2_left 6 = .ok (.aload_n 2, 1) := by decide +kernel
theorem dX2_left_7 : decode cX2_left 7 = .ok (.ifnonnull 13, 3) := by decide +kernel
theorem dX2_left_10 : decode cX2_left 10 = .ok (.new 59, 3) := by decide +kernel
theorem dX2_left_13 : decode cX2_left 13 = .ok (.dup, 1) := by decide +kernel
theorem dX2_left_14 : decode cX2_left 14 = .ok (.ldc 105, 2) := by decide +kernel
theorem dX2_left_16 : decode cX2_left 16 = .ok (.invokespecial 63, 3) := by decide +kernel
theorem dX2_left_19 : decode cX2_left 19 = .ok (.athrow, 1) := by decide +kernel
theorem dX2_left_20 : decode cX2_left 20 = .ok (.aload_n 2, 1) := by decide +kernel
theorem dX2_left_21 : decode cX2_left 21 = .ok (.invokevirtual 107, 3) := by decide +kernel
theorem dX2_left_24 : decode cX2_left 24 = .ok (.ireturn, 1) := by decide +kernel
set_option maxRecDepth 20000 in
theorem ggX2_bears_X2_findLoan : GoodIn wsX2_bears wsX2_findLoan := goodIn_r _ [9, 10, 39, 40, 41, 42, 43, 44, 45, 46, 47, 48, 49, 50, 51] (by decide +kernel) (by decide +kernel)
set_option maxRecDepth 20000 in
theorem gX2_bears_X2_findLoan : GoodIn wsX2_bears (wsV RX2 101 RX2 yX2_findLoan wsX2_findLoan) := goodIn_app (goodIn_of _ (by decide +kernel)) ggX2_bears_X2_findLoan
set_option maxRecDepth 20000 in
theorem ggX2_bears_X0_customerInterest : GoodIn wsX2_bears wsX0_customerInterest := goodIn_r _ [14, 15, 16, 17, 18, 12, 19, 20, 21, 22, 8, 23, 24, 52, 53, 54, 55, 56, 57, 58, 59] (by decide +kernel) (by decide +kernel)
set_option maxRecDepth 20000 in
theorem gX2_bears_X0_customerInterest_n149 : GoodIn wsX2_bears (wsX0_customerInterest) := ggX2_bears_X0_customerInterest
set_option maxRecDepth 20000 in
theorem ggX2_bears_X0_funding : GoodIn wsX2_bears wsX0_funding := goodIn_r _ [27, 20, 21, 28, 22, 8, 23, 24, 52, 53, 54, 55, 56, 57, 58, 59] (by decide +kernel) (by decide +kernel)
set_option maxRecDepth 20000 in
theorem gX2_bears_X0_funding_n152 : GoodIn wsX2_bears (wsX0_funding) := ggX2_bears_X0_funding
set_option maxRecDepth 20000 in
theorem ggX2_bears_X0_optionCharge : GoodIn wsX2_bears wsX0_optionCharge := goodIn_r _ [31, 32, 16, 17, 18, 12, 19, 20, 21, 22, 8, 23, 24, 52, 53, 54, 55, 56, 57, 58, 59] (by decide +kernel) (by decide +kernel)
set_option maxRecDepth 20000 in
theorem gX2_bears_X0_optionCharge_n155 : GoodIn wsX2_bears (wsX0_optionCharge) := ggX2_bears_X0_optionCharge
set_option maxRecDepth 20000 in
theorem ggX2_bears_X0_ownMargin : GoodIn wsX2_bears wsX0_ownMargin := goodIn_r _ [35, 36, 11, 13, 12, 14, 15, 16, 17, 18, 19, 20, 21, 22, 8, 23, 24, 37, 25, 26, 27, 28, 38, 29, 30, 31, 32, 52, 53, 54, 55, 56, 57, 58, 59] (by decide +kernel) (by decide +kernel)
set_option maxRecDepth 20000 in
theorem gX2_bears_X0_ownMargin_n158 : GoodIn wsX2_bears (wsX0_ownMargin) := ggX2_bears_X0_ownMargin
theorem dX2_bears_0 : decode cX2_bears 0 = .ok (.aload_n 0, 1) := by decide +kernel
theorem dX2_bears_1 : decode cX2_bears 1 = .ok (.iload_n 1, 1) := by decide +kernel
theorem dX2_bears_2 : decode cX2_bears 2 = .ok (.invokevirtual 101, 3) := by decide +kernel
theorem dX2_bears_5 : decode cX2_bears 5 = .ok (.astore_n 3, 1) := by decide +kernel
theorem dX2_bears_6 : decode cX2_bears 6 = .ok (.aload_n 3, 1) := by decide +kernel
theorem dX2_bears_7 : decode cX2_bears 7 = .ok (.ifnonnull 13, 3) := by decide +kernel
theorem dX2_bears_10 : decode cX2_bears 10 = .ok (.new 59, 3) := by decide +kernel
theorem dX2_bears_13 : decode cX2_bears 13 = .ok (.dup, 1) := by decide +kernel
theorem dX2_bears_14 : decode cX2_bears 14 = .ok (.ldc 105, 2) := by decide +kernel
theorem dX2_bears_16 : decode cX2_bears 16 = .ok (.invokespecial 63, 3) := by decide +kernel
theorem dX2_bears_19 : decode cX2_bears 19 = .ok (.athrow, 1) := by decide +kernel
theorem dX2_bears_20 : decode cX2_bears 20 = .ok (.iload_n 2, 1) := by decide +kernel
theorem dX2_bears_21 : decode cX2_bears 21 = .ok (.tableswitch 51 0 3 #[31, 36, 41, 46], 31) := by decide +kernel
theorem dX2_bears_52 : decode cX2_bears 52 = .ok (.aload_n 3, 1) := by decide +kernel
theorem dX2_bears_53 : decode cX2_bears 53 = .ok (.invokevirtual 149, 3) := by decide +kernel
theorem dX2_bears_56 : decode cX2_bears 56 = .ok (.ireturn, 1) := by decide +kernel
theorem dX2_bears_57 : decode cX2_bears 57 = .ok (.aload_n 3, 1) := by decide +kernel
theorem dX2_bears_58 : decode cX2_bears 58 = .ok (.invokevirtual 152, 3) := by decide +kernel
theorem dX2_bears_61 : decode cX2_bears 61 = .ok (.ireturn, 1) := by decide +kernel
theorem dX2_bears_62 : decode cX2_bears 62 = .ok (.aload_n 3, 1) := by decide +kernel
theorem dX2_bears_63 : decode cX2_bears 63 = .ok (.invokevirtual 155, 3) := by decide +kernel
theorem dX2_bears_66 : decode cX2_bears 66 = .ok (.ireturn, 1) := by decide +kernel
theorem dX2_bears_67 : decode cX2_bears 67 = .ok (.aload_n 3, 1) := by decide +kernel
theorem dX2_bears_68 : decode cX2_bears 68 = .ok (.invokevirtual 158, 3) := by decide +kernel
theorem dX2_bears_71 : decode cX2_bears 71 = .ok (.ireturn, 1) := by decide +kernel
theorem dX2_bears_72 : decode cX2_bears 72 = .ok (.new 66, 3) := by decide +kernel
theorem dX2_bears_75 : decode cX2_bears 75 = .ok (.dup, 1) := by decide +kernel
theorem dX2_bears_76 : decode cX2_bears 76 = .ok (.ldc 161, 2) := by decide +kernel
theorem dX2_bears_78 : decode cX2_bears 78 = .ok (.invokespecial 70, 3) := by decide +kernel
theorem dX2_bears_81 : decode cX2_bears 81 = .ok (.athrow, 1) := by decide +kernel
set_option maxRecDepth 20000 in
theorem ggX2_due_X0_partAhead : GoodIn wsX2_due wsX0_partAhead := goodIn_r _ [7, 8, 9, 23, 24, 25, 26, 27, 28, 29, 30] (by decide +kernel) (by decide +kernel)
set_option maxRecDepth 20000 in
theorem gX2_due_X0_partAhead_n165 : GoodIn wsX2_due (wsX0_partAhead) := ggX2_due_X0_partAhead
theorem dX2_due_0 : decode cX2_due 0 = .ok (.iload_n 1, 1) := by decide +kernel
theorem dX2_due_1 : decode cX2_due 1 = .ok (.ifCond .lt 9, 3) := by decide +kernel
theorem dX2_due_4 : decode cX2_due 4 = .ok (.iload_n 1, 1) := by decide +kernel
theorem dX2_due_5 : decode cX2_due 5 = .ok (.bipush 6, 2) := by decide +kernel
theorem dX2_due_7 : decode cX2_due 7 = .ok (.if_icmp .lt 13, 3) := by decide +kernel
theorem dX2_due_10 : decode cX2_due 10 = .ok (.new 66, 3) := by decide +kernel
theorem dX2_due_13 : decode cX2_due 13 = .ok (.dup, 1) := by decide +kernel
theorem dX2_due_14 : decode cX2_due 14 = .ok (.ldc 163, 2) := by decide +kernel
theorem dX2_due_16 : decode cX2_due 16 = .ok (.invokespecial 70, 3) := by decide +kernel
theorem dX2_due_19 : decode cX2_due 19 = .ok (.athrow, 1) := by decide +kernel
theorem dX2_due_20 : decode cX2_due 20 = .ok (.iconst 0, 1) := by decide +kernel
theorem dX2_due_21 : decode cX2_due 21 = .ok (.istore_n 2, 1) := by decide +kernel
theorem dX2_due_22 : decode cX2_due 22 = .ok (.aload_n 0, 1) := by decide +kernel
theorem dX2_due_23 : decode cX2_due 23 = .ok (.getfield 28, 3) := by decide +kernel
theorem dX2_due_26 : decode cX2_due 26 = .ok (.astore_n 3, 1) := by decide +kernel
theorem dX2_due_27 : decode cX2_due 27 = .ok (.aload_n 3, 1) := by decide +kernel
theorem dX2_due_28 : decode cX2_due 28 = .ok (.arraylength, 1) := by decide +kernel
theorem dX2_due_29 : decode cX2_due 29 = .ok (.istore 4, 2) := by decide +kernel
theorem dX2_due_31 : decode cX2_due 31 = .ok (.iconst 0, 1) := by decide +kernel
theorem dX2_due_32 : decode cX2_due 32 = .ok (.istore 5, 2) := by decide +kernel
theorem dX2_due_34 : decode cX2_due 34 = .ok (.iload 5, 2) := by decide +kernel
theorem dX2_due_36 : decode cX2_due 36 = .ok (.iload 4, 2) := by decide +kernel
theorem dX2_due_38 : decode cX2_due 38 = .ok (.if_icmp .ge 29, 3) := by decide +kernel
theorem dX2_due_41 : decode cX2_due 41 = .ok (.aload_n 3, 1) := by decide +kernel
theorem dX2_due_42 : decode cX2_due 42 = .ok (.iload 5, 2) := by decide +kernel
theorem dX2_due_44 : decode cX2_due 44 = .ok (.aaload, 1) := by decide +kernel
theorem dX2_due_45 : decode cX2_due 45 = .ok (.astore 6, 2) := by decide +kernel
theorem dX2_due_47 : decode cX2_due 47 = .ok (.aload 6, 2) := by decide +kernel
theorem dX2_due_49 : decode cX2_due 49 = .ok (.ifnull 12, 3) := by decide +kernel
theorem dX2_due_52 : decode cX2_due 52 = .ok (.iload_n 2, 1) := by decide +kernel
theorem dX2_due_53 : decode cX2_due 53 = .ok (.aload 6, 2) := by decide +kernel
theorem dX2_due_55 : decode cX2_due 55 = .ok (.iload_n 1, 1) := by decide +kernel
theorem dX2_due_56 : decode cX2_due 56 = .ok (.invokevirtual 165, 3) := by decide +kernel
theorem dX2_due_59 : decode cX2_due 59 = .ok (.iadd, 1) := by decide +kernel
theorem dX2_due_60 : decode cX2_due 60 = .ok (.istore_n 2, 1) := by decide +kernel
theorem dX2_due_61 : decode cX2_due 61 = .ok (.iinc 5 1, 3) := by decide +kernel
theorem dX2_due_64 : decode cX2_due 64 = .ok (.goto (-30), 3) := by decide +kernel
theorem dX2_due_67 : decode cX2_due 67 = .ok (.iload_n 2, 1) := by decide +kernel
theorem dX2_due_68 : decode cX2_due 68 = .ok (.ireturn, 1) := by decide +kernel
theorem dX2_balance_0 : decode cX2_balance 0 = .ok (.iload_n 1, 1) := by decide +kernel
theorem dX2_balance_1 : decode cX2_balance 1 = .ok (.ifCond .lt 8, 3) := by decide +kernel
theorem dX2_balance_4 : decode cX2_balance 4 = .ok (.iload_n 1, 1) := by decide +kernel
theorem dX2_balance_5 : decode cX2_balance 5 = .ok (.iconst 3, 1) := by decide +kernel
theorem dX2_balance_6 : decode cX2_balance 6 = .ok (.if_icmp .lt 13, 3) := by decide +kernel
theorem dX2_balance_9 : decode cX2_balance 9 = .ok (.new 59, 3) := by decide +kernel
theorem dX2_balance_12 : decode cX2_balance 12 = .ok (.dup, 1) := by decide +kernel
theorem dX2_balance_13 : decode cX2_balance 13 = .ok (.ldc 120, 2) := by decide +kernel
theorem dX2_balance_15 : decode cX2_balance 15 = .ok (.invokespecial 63, 3) := by decide +kernel
theorem dX2_balance_18 : decode cX2_balance 18 = .ok (.athrow, 1) := by decide +kernel
theorem dX2_balance_19 : decode cX2_balance 19 = .ok (.aload_n 0, 1) := by decide +kernel
theorem dX2_balance_20 : decode cX2_balance 20 = .ok (.getfield 35, 3) := by decide +kernel
theorem dX2_balance_23 : decode cX2_balance 23 = .ok (.iload_n 1, 1) := by decide +kernel
theorem dX2_balance_24 : decode cX2_balance 24 = .ok (.iaload, 1) := by decide +kernel
theorem dX2_balance_25 : decode cX2_balance 25 = .ok (.ireturn, 1) := by decide +kernel
theorem dX2_tranche_0 : decode cX2_tranche 0 = .ok (.iload_n 1, 1) := by decide +kernel
theorem dX2_tranche_1 : decode cX2_tranche 1 = .ok (.ifCond .lt 9, 3) := by decide +kernel
theorem dX2_tranche_4 : decode cX2_tranche 4 = .ok (.iload_n 1, 1) := by decide +kernel
theorem dX2_tranche_5 : decode cX2_tranche 5 = .ok (.bipush 6, 2) := by decide +kernel
theorem dX2_tranche_7 : decode cX2_tranche 7 = .ok (.if_icmp .lt 13, 3) := by decide +kernel
theorem dX2_tranche_10 : decode cX2_tranche 10 = .ok (.new 59, 3) := by decide +kernel
theorem dX2_tranche_13 : decode cX2_tranche 13 = .ok (.dup, 1) := by decide +kernel
theorem dX2_tranche_14 : decode cX2_tranche 14 = .ok (.ldc 169, 2) := by decide +kernel
theorem dX2_tranche_16 : decode cX2_tranche 16 = .ok (.invokespecial 63, 3) := by decide +kernel
theorem dX2_tranche_19 : decode cX2_tranche 19 = .ok (.athrow, 1) := by decide +kernel
theorem dX2_tranche_20 : decode cX2_tranche 20 = .ok (.aload_n 0, 1) := by decide +kernel
theorem dX2_tranche_21 : decode cX2_tranche 21 = .ok (.getfield 41, 3) := by decide +kernel
theorem dX2_tranche_24 : decode cX2_tranche 24 = .ok (.getfield 171, 3) := by decide +kernel
theorem dX2_tranche_27 : decode cX2_tranche 27 = .ok (.iload_n 1, 1) := by decide +kernel
theorem dX2_tranche_28 : decode cX2_tranche 28 = .ok (.iaload, 1) := by decide +kernel
theorem dX2_tranche_29 : decode cX2_tranche 29 = .ok (.ireturn, 1) := by decide +kernel
set_option maxRecDepth 20000 in
theorem ggX2_replicaRate_X1_averageRate : GoodIn wsX2_replicaRate wsX1_averageRate := goodIn_r _ [5, 6, 7, 21, 22] (by decide +kernel) (by decide +kernel)
set_option maxRecDepth 20000 in
theorem gX2_replicaRate_X1_averageRate_n174 : GoodIn wsX2_replicaRate (wsX1_averageRate) := ggX2_replicaRate_X1_averageRate
theorem dX2_replicaRate_0 : decode cX2_replicaRate 0 = .ok (.aload_n 0, 1) := by decide +kernel
theorem dX2_replicaRate_1 : decode cX2_replicaRate 1 = .ok (.getfield 41, 3) := by decide +kernel
theorem dX2_replicaRate_4 : decode cX2_replicaRate 4 = .ok (.invokevirtual 174, 3) := by decide +kernel
theorem dX2_replicaRate_7 : decode cX2_replicaRate 7 = .ok (.ireturn, 1) := by decide +kernel
set_option maxRecDepth 20000 in
theorem ggX2_margin_X2_hasEnded : GoodIn wsX2_margin wsX2_hasEnded := goodIn_r _ [8, 9, 10, 11, 12, 13, 14, 15, 16, 17, 18, 19, 20, 21, 22] (by decide +kernel) (by decide +kernel)
set_option maxRecDepth 20000 in
theorem gX2_margin_X2_hasEnded : GoodIn wsX2_margin (wsV RX2 177 RX2 yX2_hasEnded wsX2_hasEnded) := goodIn_app (goodIn_of _ (by decide +kernel)) ggX2_margin_X2_hasEnded
theorem dX2_margin_0 : decode cX2_margin 0 = .ok (.iload_n 1, 1) := by decide +kernel
theorem dX2_margin_1 : decode cX2_margin 1 = .ok (.ifCond .lt 16, 3) := by decide +kernel
theorem dX2_margin_4 : decode cX2_margin 4 = .ok (.iload_n 1, 1) := by decide +kernel
theorem dX2_margin_5 : decode cX2_margin 5 = .ok (.iconst 3, 1) := by decide +kernel
theorem dX2_margin_6 : decode cX2_margin 6 = .ok (.if_icmp .ge 11, 3) := by decide +kernel
theorem dX2_margin_9 : decode cX2_margin 9 = .ok (.aload_n 0, 1) := by decide +kernel
theorem dX2_margin_10 : decode cX2_margin 10 = .ok (.iload_n 2, 1) := by decide +kernel
theorem dX2_margin_11 : decode cX2_margin 11 = .ok (.invokevirtual 177, 3) := by decide +kernel
theorem dX2_margin_14 : decode cX2_margin 14 = .ok (.ifCond .ne 13, 3) := by decide +kernel
theorem dX2_margin_17 : decode cX2_margin 17 = .ok (.new 59, 3) := by decide +kernel
theorem dX2_margin_20 : decode cX2_margin 20 = .ok (.dup, 1) := by decide +kernel
theorem dX2_margin_21 : decode cX2_margin 21 = .ok (.ldc 181, 2) := by decide +kernel
theorem dX2_margin_23 : decode cX2_margin 23 = .ok (.invokespecial 63, 3) := by decide +kernel
theorem dX2_margin_26 : decode cX2_margin 26 = .ok (.athrow, 1) := by decide +kernel
theorem dX2_margin_27 : decode cX2_margin 27 = .ok (.aload_n 0, 1) := by decide +kernel
theorem dX2_margin_28 : decode cX2_margin 28 = .ok (.getfield 47, 3) := by decide +kernel
theorem dX2_margin_31 : decode cX2_margin 31 = .ok (.iload_n 1, 1) := by decide +kernel
theorem dX2_margin_32 : decode cX2_margin 32 = .ok (.aaload, 1) := by decide +kernel
theorem dX2_margin_33 : decode cX2_margin 33 = .ok (.iload_n 2, 1) := by decide +kernel
theorem dX2_margin_34 : decode cX2_margin 34 = .ok (.iaload, 1) := by decide +kernel
theorem dX2_margin_35 : decode cX2_margin 35 = .ok (.ireturn, 1) := by decide +kernel
set_option maxRecDepth 20000 in
theorem ggX2_byProduct_X2_hasEnded : GoodIn wsX2_byProduct wsX2_hasEnded := goodIn_r _ [8, 9, 10, 11, 12, 13, 14, 15, 16, 17, 18, 19, 20, 21, 22] (by decide +kernel) (by decide +kernel)
set_option maxRecDepth 20000 in
theorem gX2_byProduct_X2_hasEnded : GoodIn wsX2_byProduct (wsV RX2 177 RX2 yX2_hasEnded wsX2_hasEnded) := goodIn_app (goodIn_of _ (by decide +kernel)) ggX2_byProduct_X2_hasEnded
theorem dX2_byProduct_0 : decode cX2_byProduct 0 = .ok (.iload_n 1, 1) := by decide +kernel
theorem dX2_byProduct_1 : decode cX2_byProduct 1 = .ok (.ifCond .lt 16, 3) := by decide +kernel
theorem dX2_byProduct_4 : decode cX2_byProduct 4 = .ok (.iload_n 1, 1) := by decide +kernel
theorem dX2_byProduct_5 : decode cX2_byProduct 5 = .ok (.iconst 3, 1) := by decide +kernel
theorem dX2_byProduct_6 : decode cX2_byProduct 6 = .ok (.if_icmp .ge 11, 3) := by decide +kernel
theorem dX2_byProduct_9 : decode cX2_byProduct 9 = .ok (.aload_n 0, 1) := by decide +kernel
theorem dX2_byProduct_10 : decode cX2_byProduct 10 = .ok (.iload_n 2, 1) := by decide +kernel
theorem dX2_byProduct_11 : decode cX2_byProduct 11 = .ok (.invokevirtual 177, 3) := by decide +kernel
theorem dX2_byProduct_14 : decode cX2_byProduct 14 = .ok (.ifCond .ne 13, 3) := by decide +kernel
theorem dX2_byProduct_17 : decode cX2_byProduct 17 = .ok (.new 59, 3) := by decide +kernel
theorem dX2_byProduct_20 : decode cX2_byProduct 20 = .ok (.dup, 1) := by decide +kernel
theorem dX2_byProduct_21 : decode cX2_byProduct 21 = .ok (.ldc 183, 2) := by decide +kernel
theorem dX2_byProduct_23 : decode cX2_byProduct 23 = .ok (.invokespecial 63, 3) := by decide +kernel
theorem dX2_byProduct_26 : decode cX2_byProduct 26 = .ok (.athrow, 1) := by decide +kernel
theorem dX2_byProduct_27 : decode cX2_byProduct 27 = .ok (.aload_n 0, 1) := by decide +kernel
theorem dX2_byProduct_28 : decode cX2_byProduct 28 = .ok (.getfield 50, 3) := by decide +kernel
theorem dX2_byProduct_31 : decode cX2_byProduct 31 = .ok (.iload_n 1, 1) := by decide +kernel
theorem dX2_byProduct_32 : decode cX2_byProduct 32 = .ok (.aaload, 1) := by decide +kernel
theorem dX2_byProduct_33 : decode cX2_byProduct 33 = .ok (.iload_n 2, 1) := by decide +kernel
theorem dX2_byProduct_34 : decode cX2_byProduct 34 = .ok (.iaload, 1) := by decide +kernel
theorem dX2_byProduct_35 : decode cX2_byProduct 35 = .ok (.ireturn, 1) := by decide +kernel
set_option maxRecDepth 20000 in
theorem ggX2_treasury_X2_hasEnded : GoodIn wsX2_treasury wsX2_hasEnded := goodIn_r _ [8, 9, 10, 11, 12, 13, 14, 15, 16, 17, 18, 19, 20, 21, 22] (by decide +kernel) (by decide +kernel)
set_option maxRecDepth 20000 in
theorem gX2_treasury_X2_hasEnded : GoodIn wsX2_treasury (wsV RX2 177 RX2 yX2_hasEnded wsX2_hasEnded) := goodIn_app (goodIn_of _ (by decide +kernel)) ggX2_treasury_X2_hasEnded
theorem dX2_treasury_0 : decode cX2_treasury 0 = .ok (.aload_n 0, 1) := by decide +kernel
theorem dX2_treasury_1 : decode cX2_treasury 1 = .ok (.iload_n 1, 1) := by decide +kernel
theorem dX2_treasury_2 : decode cX2_treasury 2 = .ok (.invokevirtual 177, 3) := by decide +kernel
theorem dX2_treasury_5 : decode cX2_treasury 5 = .ok (.ifCond .ne 13, 3) := by decide +kernel
theorem dX2_treasury_8 : decode cX2_treasury 8 = .ok (.new 59, 3) := by decide +kernel
theorem dX2_treasury_11 : decode cX2_treasury 11 = .ok (.dup, 1) := by decide +kernel
theorem dX2_treasury_12 : decode cX2_treasury 12 = .ok (.ldc 185, 2) := by decide +kernel
theorem dX2_treasury_14 : decode cX2_treasury 14 = .ok (.invokespecial 63, 3) := by decide +kernel
theorem dX2_treasury_17 : decode cX2_treasury 17 = .ok (.athrow, 1) := by decide +kernel
theorem dX2_treasury_18 : decode cX2_treasury 18 = .ok (.aload_n 0, 1) := by decide +kernel
theorem dX2_treasury_19 : decode cX2_treasury 19 = .ok (.getfield 53, 3) := by decide +kernel
theorem dX2_treasury_22 : decode cX2_treasury 22 = .ok (.iload_n 1, 1) := by decide +kernel
theorem dX2_treasury_23 : decode cX2_treasury 23 = .ok (.iaload, 1) := by decide +kernel
theorem dX2_treasury_24 : decode cX2_treasury 24 = .ok (.ireturn, 1) := by decide +kernel
set_option maxRecDepth 20000 in
theorem ggX2_interest_X2_hasEnded : GoodIn wsX2_interest wsX2_hasEnded := goodIn_r _ [8, 9, 10, 11, 12, 13, 14, 15, 16, 17, 18, 19, 20, 21, 22] (by decide +kernel) (by decide +kernel)
set_option maxRecDepth 20000 in
theorem gX2_interest_X2_hasEnded : GoodIn wsX2_interest (wsV RX2 177 RX2 yX2_hasEnded wsX2_hasEnded) := goodIn_app (goodIn_of _ (by decide +kernel)) ggX2_interest_X2_hasEnded
theorem dX2_interest_0 : decode cX2_interest 0 = .ok (.aload_n 0, 1) := by decide +kernel
theorem dX2_interest_1 : decode cX2_interest 1 = .ok (.iload_n 1, 1) := by decide +kernel
theorem dX2_interest_2 : decode cX2_interest 2 = .ok (.invokevirtual 177, 3) := by decide +kernel
theorem dX2_interest_5 : decode cX2_interest 5 = .ok (.ifCond .ne 13, 3) := by decide +kernel
theorem dX2_interest_8 : decode cX2_interest 8 = .ok (.new 59, 3) := by decide +kernel
theorem dX2_interest_11 : decode cX2_interest 11 = .ok (.dup, 1) := by decide +kernel
theorem dX2_interest_12 : decode cX2_interest 12 = .ok (.ldc 185, 2) := by decide +kernel
theorem dX2_interest_14 : decode cX2_interest 14 = .ok (.invokespecial 63, 3) := by decide +kernel
theorem dX2_interest_17 : decode cX2_interest 17 = .ok (.athrow, 1) := by decide +kernel
theorem dX2_interest_18 : decode cX2_interest 18 = .ok (.aload_n 0, 1) := by decide +kernel
theorem dX2_interest_19 : decode cX2_interest 19 = .ok (.getfield 56, 3) := by decide +kernel
theorem dX2_interest_22 : decode cX2_interest 22 = .ok (.iload_n 1, 1) := by decide +kernel
theorem dX2_interest_23 : decode cX2_interest 23 = .ok (.iaload, 1) := by decide +kernel
theorem dX2_interest_24 : decode cX2_interest 24 = .ok (.ireturn, 1) := by decide +kernel
theorem dX2_hasEnded_0 : decode cX2_hasEnded 0 = .ok (.iload_n 1, 1) := by decide +kernel
theorem dX2_hasEnded_1 : decode cX2_hasEnded 1 = .ok (.ifCond .lt 15, 3) := by decide +kernel
theorem dX2_hasEnded_4 : decode cX2_hasEnded 4 = .ok (.iload_n 1, 1) := by decide +kernel
theorem dX2_hasEnded_5 : decode cX2_hasEnded 5 = .ok (.aload_n 0, 1) := by decide +kernel
theorem dX2_hasEnded_6 : decode cX2_hasEnded 6 = .ok (.getfield 23, 3) := by decide +kernel
theorem dX2_hasEnded_9 : decode cX2_hasEnded 9 = .ok (.if_icmp .ge 7, 3) := by decide +kernel
theorem dX2_hasEnded_12 : decode cX2_hasEnded 12 = .ok (.iconst 1, 1) := by decide +kernel
theorem dX2_hasEnded_13 : decode cX2_hasEnded 13 = .ok (.goto 4, 3) := by decide +kernel
theorem dX2_hasEnded_16 : decode cX2_hasEnded 16 = .ok (.iconst 0, 1) := by decide +kernel
theorem dX2_hasEnded_17 : decode cX2_hasEnded 17 = .ok (.ireturn, 1) := by decide +kernel
theorem dX2_findLoan_0 : decode cX2_findLoan 0 = .ok (.iload_n 1, 1) := by decide +kernel
theorem dX2_findLoan_1 : decode cX2_findLoan 1 = .ok (.ifCond .lt 9, 3) := by decide +kernel
theorem dX2_findLoan_4 : decode cX2_findLoan 4 = .ok (.iload_n 1, 1) := by decide +kernel
theorem dX2_findLoan_5 : decode cX2_findLoan 5 = .ok (.bipush 24, 2) := by decide +kernel
theorem dX2_findLoan_7 : decode cX2_findLoan 7 = .ok (.if_icmp .lt 7, 3) := by decide +kernel
theorem dX2_findLoan_10 : decode cX2_findLoan 10 = .ok (.aconst_null, 1) := by decide +kernel
theorem dX2_findLoan_11 : decode cX2_findLoan 11 = .ok (.goto 9, 3) := by decide +kernel
theorem dX2_findLoan_14 : decode cX2_findLoan 14 = .ok (.aload_n 0, 1) := by decide +kernel
theorem dX2_findLoan_15 : decode cX2_findLoan 15 = .ok (.getfield 28, 3) := by decide +kernel
theorem dX2_findLoan_18 : decode cX2_findLoan 18 = .ok (.iload_n 1, 1) := by decide +kernel
theorem dX2_findLoan_19 : decode cX2_findLoan 19 = .ok (.aaload, 1) := by decide +kernel
theorem dX2_findLoan_20 : decode cX2_findLoan 20 = .ok (.areturn, 1) := by decide +kernel
theorem dX2_cutIntoParts_0 : decode cX2_cutIntoParts 0 = .ok (.bipush 6, 2) := by decide +kernel
theorem dX2_cutIntoParts_2 : decode cX2_cutIntoParts 2 = .ok (.newarray .int, 2) := by decide +kernel
theorem dX2_cutIntoParts_4 : decode cX2_cutIntoParts 4 = .ok (.astore_n 3, 1) := by decide +kernel
theorem dX2_cutIntoParts_5 : decode cX2_cutIntoParts 5 = .ok (.iconst 0, 1) := by decide +kernel
theorem dX2_cutIntoParts_6 : decode cX2_cutIntoParts 6 = .ok (.istore 4, 2) := by decide +kernel
theorem dX2_cutIntoParts_8 : decode cX2_cutIntoParts 8 = .ok (.iload 4, 2) := by decide +kernel
theorem dX2_cutIntoParts_10 : decode cX2_cutIntoParts 10 = .ok (.bipush 6, 2) := by decide +kernel
theorem dX2_cutIntoParts_12 : decode cX2_cutIntoParts 12 = .ok (.if_icmp .ge 44, 3) := by decide +kernel
theorem dX2_cutIntoParts_15 : decode cX2_cutIntoParts 15 = .ok (.iload 4, 2) := by decide +kernel
theorem dX2_cutIntoParts_17 : decode cX2_cutIntoParts 17 = .ok (.iload_n 2, 1) := by decide +kernel
theorem dX2_cutIntoParts_18 : decode cX2_cutIntoParts 18 = .ok (.iconst 1, 1) := by decide +kernel
theorem dX2_cutIntoParts_19 : decode cX2_cutIntoParts 19 = .ok (.isub, 1) := by decide +kernel
theorem dX2_cutIntoParts_20 : decode cX2_cutIntoParts 20 = .ok (.if_icmp .ge 11, 3) := by decide +kernel
theorem dX2_cutIntoParts_23 : decode cX2_cutIntoParts 23 = .ok (.aload_n 3, 1) := by decide +kernel
theorem dX2_cutIntoParts_24 : decode cX2_cutIntoParts 24 = .ok (.iload 4, 2) := by decide +kernel
theorem dX2_cutIntoParts_26 : decode cX2_cutIntoParts 26 = .ok (.iload_n 1, 1) := by decide +kernel
theorem dX2_cutIntoParts_27 : decode cX2_cutIntoParts 27 = .ok (.iastore, 1) := by decide +kernel
theorem dX2_cutIntoParts_28 : decode cX2_cutIntoParts 28 = .ok (.goto 22, 3) := by decide +kernel
theorem dX2_cutIntoParts_31 : decode cX2_cutIntoParts 31 = .ok (.iload 4, 2) := by decide +kernel
theorem dX2_cutIntoParts_33 : decode cX2_cutIntoParts 33 = .ok (.iload_n 2, 1) := by decide +kernel
theorem dX2_cutIntoParts_34 : decode cX2_cutIntoParts 34 = .ok (.iconst 1, 1) := by decide +kernel
theorem dX2_cutIntoParts_35 : decode cX2_cutIntoParts 35 = .ok (.isub, 1) := by decide +kernel
theorem dX2_cutIntoParts_36 : decode cX2_cutIntoParts 36 = .ok (.if_icmp .ne 14, 3) := by decide +kernel
theorem dX2_cutIntoParts_39 : decode cX2_cutIntoParts 39 = .ok (.aload_n 3, 1) := by decide +kernel
theorem dX2_cutIntoParts_40 : decode cX2_cutIntoParts 40 = .ok (.iload 4, 2) := by decide +kernel
theorem dX2_cutIntoParts_42 : decode cX2_cutIntoParts 42 = .ok (.iload_n 0, 1) := by decide +kernel
theorem dX2_cutIntoParts_43 : decode cX2_cutIntoParts 43 = .ok (.iload_n 1, 1) := by decide +kernel
theorem dX2_cutIntoParts_44 : decode cX2_cutIntoParts 44 = .ok (.iload_n 2, 1) := by decide +kernel
theorem dX2_cutIntoParts_45 : decode cX2_cutIntoParts 45 = .ok (.iconst 1, 1) := by decide +kernel
theorem dX2_cutIntoParts_46 : decode cX2_cutIntoParts 46 = .ok (.isub, 1) := by decide +kernel
theorem dX2_cutIntoParts_47 : decode cX2_cutIntoParts 47 = .ok (.imul, 1) := by decide +kernel
theorem dX2_cutIntoParts_48 : decode cX2_cutIntoParts 48 = .ok (.isub, 1) := by decide +kernel
theorem dX2_cutIntoParts_49 : decode cX2_cutIntoParts 49 = .ok (.iastore, 1) := by decide +kernel
theorem dX2_cutIntoParts_50 : decode cX2_cutIntoParts 50 = .ok (.iinc 4 1, 3) := by decide +kernel
theorem dX2_cutIntoParts_53 : decode cX2_cutIntoParts 53 = .ok (.goto (-45), 3) := by decide +kernel
theorem dX2_cutIntoParts_56 : decode cX2_cutIntoParts 56 = .ok (.aload_n 3, 1) := by decide +kernel
theorem dX2_cutIntoParts_57 : decode cX2_cutIntoParts 57 = .ok (.areturn, 1) := by decide +kernel
theorem dX2_forOneMonth_0 : decode cX2_forOneMonth 0 = .ok (.lload_n 0, 1) := by decide +kernel
theorem dX2_forOneMonth_1 : decode cX2_forOneMonth 1 = .ok (.ldc2_w 187, 3) := by decide +kernel
theorem dX2_forOneMonth_4 : decode cX2_forOneMonth 4 = .ok (.ldiv, 1) := by decide +kernel
theorem dX2_forOneMonth_5 : decode cX2_forOneMonth 5 = .ok (.l2i, 1) := by decide +kernel
theorem dX2_forOneMonth_6 : decode cX2_forOneMonth 6 = .ok (.ireturn, 1) := by decide +kernel
theorem dX2_coreOf_0 : decode cX2_coreOf 0 = .ok (.lload_n 1, 1) := by decide +kernel
theorem dX2_coreOf_1 : decode cX2_coreOf 1 = .ok (.aload_n 0, 1) := by decide +kernel
theorem dX2_coreOf_2 : decode cX2_coreOf 2 = .ok (.getfield 20, 3) := by decide +kernel
theorem dX2_coreOf_5 : decode cX2_coreOf 5 = .ok (.i2l, 1) := by decide +kernel
theorem dX2_coreOf_6 : decode cX2_coreOf 6 = .ok (.lmul, 1) := by decide +kernel
theorem dX2_coreOf_7 : decode cX2_coreOf 7 = .ok (.ldc2_w 189, 3) := by decide +kernel
theorem dX2_coreOf_10 : decode cX2_coreOf 10 = .ok (.ldiv, 1) := by decide +kernel
theorem dX2_coreOf_11 : decode cX2_coreOf 11 = .ok (.l2i, 1) := by decide +kernel
theorem dX2_coreOf_12 : decode cX2_coreOf 12 = .ok (.ireturn, 1) := by decide +kernel
set_option maxRecDepth 20000 in
theorem ggX2_trancheAmount_X2_coreOf : GoodIn wsX2_trancheAmount wsX2_coreOf := goodIn_r _ [6, 7, 8, 9, 10, 11, 12, 13, 14, 15, 16, 17, 18, 19, 20, 21] (by decide +kernel) (by decide +kernel)
set_option maxRecDepth 20000 in
theorem gX2_trancheAmount_X2_coreOf : GoodIn wsX2_trancheAmount (wsV RX2 191 RX2 yX2_coreOf wsX2_coreOf) := goodIn_app (goodIn_of _ (by decide +kernel)) ggX2_trancheAmount_X2_coreOf
theorem dX2_trancheAmount_0 : decode cX2_trancheAmount 0 = .ok (.lconst 0, 1) := by decide +kernel
theorem dX2_trancheAmount_1 : decode cX2_trancheAmount 1 = .ok (.lstore_n 1, 1) := by decide +kernel
theorem dX2_trancheAmount_2 : decode cX2_trancheAmount 2 = .ok (.aload_n 0, 1) := by decide +kernel
theorem dX2_trancheAmount_3 : decode cX2_trancheAmount 3 = .ok (.getfield 35, 3) := by decide +kernel
theorem dX2_trancheAmount_6 : decode cX2_trancheAmount 6 = .ok (.astore_n 3, 1) := by decide +kernel
theorem dX2_trancheAmount_7 : decode cX2_trancheAmount 7 = .ok (.aload_n 3, 1) := by decide +kernel
theorem dX2_trancheAmount_8 : decode cX2_trancheAmount 8 = .ok (.arraylength, 1) := by decide +kernel
theorem dX2_trancheAmount_9 : decode cX2_trancheAmount 9 = .ok (.istore 4, 2) := by decide +kernel
theorem dX2_trancheAmount_11 : decode cX2_trancheAmount 11 = .ok (.iconst 0, 1) := by decide +kernel
theorem dX2_trancheAmount_12 : decode cX2_trancheAmount 12 = .ok (.istore 5, 2) := by decide +kernel
theorem dX2_trancheAmount_14 : decode cX2_trancheAmount 14 = .ok (.iload 5, 2) := by decide +kernel
theorem dX2_trancheAmount_16 : decode cX2_trancheAmount 16 = .ok (.iload 4, 2) := by decide +kernel
theorem dX2_trancheAmount_18 : decode cX2_trancheAmount 18 = .ok (.if_icmp .ge 21, 3) := by decide +kernel
theorem dX2_trancheAmount_21 : decode cX2_trancheAmount 21 = .ok (.aload_n 3, 1) := by decide +kernel
theorem dX2_trancheAmount_22 : decode cX2_trancheAmount 22 = .ok (.iload 5, 2) := by decide +kernel
theorem dX2_trancheAmount_24 : decode cX2_trancheAmount 24 = .ok (.iaload, 1) := by decide +kernel
theorem dX2_trancheAmount_25 : decode cX2_trancheAmount 25 = .ok (.istore 6, 2) := by decide +kernel
theorem dX2_trancheAmount_27 : decode cX2_trancheAmount 27 = .ok (.lload_n 1, 1) := by decide +kernel
theorem dX2_trancheAmount_28 : decode cX2_trancheAmount 28 = .ok (.iload 6, 2) := by decide +kernel
theorem dX2_trancheAmount_30 : decode cX2_trancheAmount 30 = .ok (.i2l, 1) := by decide +kernel
theorem dX2_trancheAmount_31 : decode cX2_trancheAmount 31 = .ok (.ladd, 1) := by decide +kernel
theorem dX2_trancheAmount_32 : decode cX2_trancheAmount 32 = .ok (.lstore_n 1, 1) := by decide +kernel
theorem dX2_trancheAmount_33 : decode cX2_trancheAmount 33 = .ok (.iinc 5 1, 3) := by decide +kernel
theorem dX2_trancheAmount_36 : decode cX2_trancheAmount 36 = .ok (.goto (-22), 3) := by decide +kernel
theorem dX2_trancheAmount_39 : decode cX2_trancheAmount 39 = .ok (.aload_n 0, 1) := by decide +kernel
theorem dX2_trancheAmount_40 : decode cX2_trancheAmount 40 = .ok (.lload_n 1, 1) := by decide +kernel
theorem dX2_trancheAmount_41 : decode cX2_trancheAmount 41 = .ok (.invokevirtual 191, 3) := by decide +kernel
theorem dX2_trancheAmount_44 : decode cX2_trancheAmount 44 = .ok (.bipush 6, 2) := by decide +kernel
theorem dX2_trancheAmount_46 : decode cX2_trancheAmount 46 = .ok (.idiv, 1) := by decide +kernel
theorem dX2_trancheAmount_47 : decode cX2_trancheAmount 47 = .ok (.ireturn, 1) := by decide +kernel
set_option maxRecDepth 20000 in
theorem ggX2_reckonLoans_X2_loanMarginsOfBranch : GoodIn wsX2_reckonLoans wsX2_loanMarginsOfBranch := goodIn_r _ [11, 4, 12, 13, 14, 15, 16, 17, 18, 19, 20, 21, 22, 23, 24, 25, 26, 27, 10, 28, 29, 30, 31, 32, 33, 34, 35, 36, 37, 38, 39, 44, 45, 46, 47, 48, 49, 50, 51, 52, 53, 54, 55, 56, 57, 58, 59, 60, 61, 62, 63, 64] (by decide +kernel) (by decide +kernel)
set_option maxRecDepth 20000 in
theorem gX2_reckonLoans_X2_loanMarginsOfBranch : GoodIn wsX2_reckonLoans (wsV RX2 195 RX2 yX2_loanMarginsOfBranch wsX2_loanMarginsOfBranch) := goodIn_app (goodIn_of _ (by decide +kernel)) ggX2_reckonLoans_X2_loanMarginsOfBranch
set_option maxRecDepth 20000 in
theorem ggX2_reckonLoans_X2_loanMarginsOfProduct : GoodIn wsX2_reckonLoans wsX2_loanMarginsOfProduct := goodIn_r _ [43, 4, 12, 13, 14, 15, 16, 17, 18, 19, 20, 21, 22, 23, 24, 25, 26, 27, 10, 28, 29, 30, 31, 32, 33, 34, 35, 36, 37, 38, 39, 44, 45, 46, 47, 48, 49, 50, 51, 52, 53, 54, 55, 56, 57, 58, 59, 60, 61, 62, 63, 64] (by decide +kernel) (by decide +kernel)
set_option maxRecDepth 20000 in
theorem gX2_reckonLoans_X2_loanMarginsOfProduct : GoodIn wsX2_reckonLoans (wsV RX2 198 RX2 yX2_loanMarginsOfProduct wsX2_loanMarginsOfProduct) := goodIn_app (goodIn_of _ (by decide +kernel)) ggX2_reckonLoans_X2_loanMarginsOfProduct
set_option maxRecDepth 20000 in
theorem ggX2_reckonLoans_X0_funding : GoodIn wsX2_reckonLoans wsX0_funding := goodIn_r _ [33, 25, 26, 34, 27, 10, 28, 29, 57, 58, 59, 60, 61, 62, 63, 64] (by decide +kernel) (by decide +kernel)
set_option maxRecDepth 20000 in
theorem gX2_reckonLoans_X0_funding_n152 : GoodIn wsX2_reckonLoans (wsX0_funding) := ggX2_reckonLoans_X0_funding
set_option maxRecDepth 20000 in
theorem ggX2_reckonLoans_X0_optionCharge : GoodIn wsX2_reckonLoans wsX0_optionCharge := goodIn_r _ [38, 39, 21, 22, 23, 13, 24, 25, 26, 27, 10, 28, 29, 57, 58, 59, 60, 61, 62, 63, 64] (by decide +kernel) (by decide +kernel)
set_option maxRecDepth 20000 in
theorem gX2_reckonLoans_X0_optionCharge_n155 : GoodIn wsX2_reckonLoans (wsX0_optionCharge) := ggX2_reckonLoans_X0_optionCharge
set_option maxRecDepth 20000 in
theorem ggX2_reckonLoans_X0_customerInterest : GoodIn wsX2_reckonLoans wsX0_customerInterest := goodIn_r _ [19, 20, 21, 22, 23, 13, 24, 25, 26, 27, 10, 28, 29, 57, 58, 59, 60, 61, 62, 63, 64] (by decide +kernel) (by decide +kernel)
set_option maxRecDepth 20000 in
theorem gX2_reckonLoans_X0_customerInterest_n149 : GoodIn wsX2_reckonLoans (wsX0_customerInterest) := ggX2_reckonLoans_X0_customerInterest
theorem dX2_reckonLoans_0 : decode cX2_reckonLoans 0 = .ok (.iconst 0, 1) := by decide +kernel
theorem dX2_reckonLoans_1 : decode cX2_reckonLoans 1 = .ok (.istore_n 1, 1) := by decide +kernel
theorem dX2_reckonLoans_2 : decode cX2_reckonLoans 2 = .ok (.iload_n 1, 1) := by decide +kernel
theorem dX2_reckonLoans_3 : decode cX2_reckonLoans 3 = .ok (.iconst 3, 1) := by decide +kernel
theorem dX2_reckonLoans_4 : decode cX2_reckonLoans 4 = .ok (.if_icmp .ge 25, 3) := by decide +kernel
theorem dX2_reckonLoans_7 : decode cX2_reckonLoans 7 = .ok (.aload_n 0, 1) := by decide +kernel
theorem dX2_reckonLoans_8 : decode cX2_reckonLoans 8 = .ok (.getfield 47, 3) := by decide +kernel
theorem dX2_reckonLoans_11 : decode cX2_reckonLoans 11 = .ok (.iload_n 1, 1) := by decide +kernel
theorem dX2_reckonLoans_12 : decode cX2_reckonLoans 12 = .ok (.aaload, 1) := by decide +kernel
theorem dX2_reckonLoans_13 : decode cX2_reckonLoans 13 = .ok (.aload_n 0, 1) := by decide +kernel
theorem dX2_reckonLoans_14 : decode cX2_reckonLoans 14 = .ok (.getfield 23, 3) := by decide +kernel
theorem dX2_reckonLoans_17 : decode cX2_reckonLoans 17 = .ok (.aload_n 0, 1) := by decide +kernel
theorem dX2_reckonLoans_18 : decode cX2_reckonLoans 18 = .ok (.iload_n 1, 1) := by decide +kernel
theorem dX2_reckonLoans_19 : decode cX2_reckonLoans 19 = .ok (.invokevirtual 195, 3) := by decide +kernel
theorem dX2_reckonLoans_22 : decode cX2_reckonLoans 22 = .ok (.iastore, 1) := by decide +kernel
theorem dX2_reckonLoans_23 : decode cX2_reckonLoans 23 = .ok (.iinc 1 1, 3) := by decide +kernel
theorem dX2_reckonLoans_26 : decode cX2_reckonLoans 26 = .ok (.goto (-24), 3) := by decide +kernel
theorem dX2_reckonLoans_29 : decode cX2_reckonLoans 29 = .ok (.iconst 0, 1) := by decide +kernel
theorem dX2_reckonLoans_30 : decode cX2_reckonLoans 30 = .ok (.istore_n 1, 1) := by decide +kernel
theorem dX2_reckonLoans_31 : decode cX2_reckonLoans 31 = .ok (.iload_n 1, 1) := by decide +kernel
theorem dX2_reckonLoans_32 : decode cX2_reckonLoans 32 = .ok (.iconst 3, 1) := by decide +kernel
theorem dX2_reckonLoans_33 : decode cX2_reckonLoans 33 = .ok (.if_icmp .ge 25, 3) := by decide +kernel
theorem dX2_reckonLoans_36 : decode cX2_reckonLoans 36 = .ok (.aload_n 0, 1) := by decide +kernel
theorem dX2_reckonLoans_37 : decode cX2_reckonLoans 37 = .ok (.getfield 50, 3) := by decide +kernel
theorem dX2_reckonLoans_40 : decode cX2_reckonLoans 40 = .ok (.iload_n 1, 1) := by decide +kernel
theorem dX2_reckonLoans_41 : decode cX2_reckonLoans 41 = .ok (.aaload, 1) := by decide +kernel
theorem dX2_reckonLoans_42 : decode cX2_reckonLoans 42 = .ok (.aload_n 0, 1) := by decide +kernel
theorem dX2_reckonLoans_43 : decode cX2_reckonLoans 43 = .ok (.getfield 23, 3) := by decide +kernel
theorem dX2_reckonLoans_46 : decode cX2_reckonLoans 46 = .ok (.aload_n 0, 1) := by decide +kernel
theorem dX2_reckonLoans_47 : decode cX2_reckonLoans 47 = .ok (.iload_n 1, 1) := by decide +kernel
theorem dX2_reckonLoans_48 : decode cX2_reckonLoans 48 = .ok (.invokevirtual 198, 3) := by decide +kernel
theorem dX2_reckonLoans_51 : decode cX2_reckonLoans 51 = .ok (.iastore, 1) := by decide +kernel
theorem dX2_reckonLoans_52 : decode cX2_reckonLoans 52 = .ok (.iinc 1 1, 3) := by decide +kernel
theorem dX2_reckonLoans_55 : decode cX2_reckonLoans 55 = .ok (.goto (-24), 3) := by decide +kernel
theorem dX2_reckonLoans_58 : decode cX2_reckonLoans 58 = .ok (.iconst 0, 1) := by decide +kernel
theorem dX2_reckonLoans_59 : decode cX2_reckonLoans 59 = .ok (.istore_n 1, 1) := by decide +kernel
theorem dX2_reckonLoans_60 : decode cX2_reckonLoans 60 = .ok (.iconst 0, 1) := by decide +kernel
theorem dX2_reckonLoans_61 : decode cX2_reckonLoans 61 = .ok (.istore_n 2, 1) := by decide +kernel
theorem dX2_reckonLoans_62 : decode cX2_reckonLoans 62 = .ok (.aload_n 0, 1) := by decide +kernel
theorem dX2_reckonLoans_63 : decode cX2_reckonLoans 63 = .ok (.getfield 28, 3) := by decide +kernel
theorem dX2_reckonLoans_66 : decode cX2_reckonLoans 66 = .ok (.astore_n 3, 1) := by decide +kernel
theorem dX2_reckonLoans_67 : decode cX2_reckonLoans 67 = .ok (.aload_n 3, 1) := by decide +kernel
theorem dX2_reckonLoans_68 : decode cX2_reckonLoans 68 = .ok (.arraylength, 1) := by decide +kernel
theorem dX2_reckonLoans_69 : decode cX2_reckonLoans 69 = .ok (.istore 4, 2) := by decide +kernel
theorem dX2_reckonLoans_71 : decode cX2_reckonLoans 71 = .ok (.iconst 0, 1) := by decide +kernel
theorem dX2_reckonLoans_72 : decode cX2_reckonLoans 72 = .ok (.istore 5, 2) := by decide +kernel
theorem dX2_reckonLoans_74 : decode cX2_reckonLoans 74 = .ok (.iload 5, 2) := by decide +kernel
theorem dX2_reckonLoans_76 : decode cX2_reckonLoans 76 = .ok (.iload 4, 2) := by decide +kernel
theorem dX2_reckonLoans_78 : decode cX2_reckonLoans 78 = .ok (.if_icmp .ge 42, 3) := by decide +kernel
theorem dX2_reckonLoans_81 : decode cX2_reckonLoans 81 = .ok (.aload_n 3, 1) := by decide +kernel
theorem dX2_reckonLoans_82 : decode cX2_reckonLoans 82 = .ok (.iload 5, 2) := by decide +kernel
theorem dX2_reckonLoans_84 : decode cX2_reckonLoans 84 = .ok (.aaload, 1) := by decide +kernel
theorem dX2_reckonLoans_85 : decode cX2_reckonLoans 85 = .ok (.astore 6, 2) := by decide +kernel
theorem dX2_reckonLoans_87 : decode cX2_reckonLoans 87 = .ok (.aload 6, 2) := by decide +kernel
theorem dX2_reckonLoans_89 : decode cX2_reckonLoans 89 = .ok (.ifnull 25, 3) := by decide +kernel
theorem dX2_reckonLoans_92 : decode cX2_reckonLoans 92 = .ok (.iload_n 1, 1) := by decide +kernel
theorem dX2_reckonLoans_93 : decode cX2_reckonLoans 93 = .ok (.aload 6, 2) := by decide +kernel
theorem dX2_reckonLoans_95 : decode cX2_reckonLoans 95 = .ok (.invokevirtual 152, 3) := by decide +kernel
theorem dX2_reckonLoans_98 : decode cX2_reckonLoans 98 = .ok (.aload 6, 2) := by decide +kernel
theorem dX2_reckonLoans_100 : decode cX2_reckonLoans 100 = .ok (.invokevirtual 155, 3) := by decide +kernel
theorem dX2_reckonLoans_103 : decode cX2_reckonLoans 103 = .ok (.iadd, 1) := by decide +kernel
theorem dX2_reckonLoans_104 : decode cX2_reckonLoans 104 = .ok (.iadd, 1) := by decide +kernel
theorem dX2_reckonLoans_105 : decode cX2_reckonLoans 105 = .ok (.istore_n 1, 1) := by decide +kernel
theorem dX2_reckonLoans_106 : decode cX2_reckonLoans 106 = .ok (.iload_n 2, 1) := by decide +kernel
theorem dX2_reckonLoans_107 : decode cX2_reckonLoans 107 = .ok (.aload 6, 2) := by decide +kernel
theorem dX2_reckonLoans_109 : decode cX2_reckonLoans 109 = .ok (.invokevirtual 149, 3) := by decide +kernel
theorem dX2_reckonLoans_112 : decode cX2_reckonLoans 112 = .ok (.iadd, 1) := by decide +kernel
theorem dX2_reckonLoans_113 : decode cX2_reckonLoans 113 = .ok (.istore_n 2, 1) := by decide +kernel
theorem dX2_reckonLoans_114 : decode cX2_reckonLoans 114 = .ok (.iinc 5 1, 3) := by decide +kernel
theorem dX2_reckonLoans_117 : decode cX2_reckonLoans 117 = .ok (.goto (-43), 3) := by decide +kernel
theorem dX2_reckonLoans_120 : decode cX2_reckonLoans 120 = .ok (.aload_n 0, 1) := by decide +kernel
theorem dX2_reckonLoans_121 : decode cX2_reckonLoans 121 = .ok (.getfield 53, 3) := by decide +kernel
theorem dX2_reckonLoans_124 : decode cX2_reckonLoans 124 = .ok (.aload_n 0, 1) := by decide +kernel
theorem dX2_reckonLoans_125 : decode cX2_reckonLoans 125 = .ok (.getfield 23, 3) := by decide +kernel
theorem dX2_reckonLoans_128 : decode cX2_reckonLoans 128 = .ok (.iload_n 1, 1) := by decide +kernel
theorem dX2_reckonLoans_129 : decode cX2_reckonLoans 129 = .ok (.iastore, 1) := by decide +kernel
theorem dX2_reckonLoans_130 : decode cX2_reckonLoans 130 = .ok (.aload_n 0, 1) := by decide +kernel
theorem dX2_reckonLoans_131 : decode cX2_reckonLoans 131 = .ok (.getfield 56, 3) := by decide +kernel
theorem dX2_reckonLoans_134 : decode cX2_reckonLoans 134 = .ok (.aload_n 0, 1) := by decide +kernel
theorem dX2_reckonLoans_135 : decode cX2_reckonLoans 135 = .ok (.getfield 23, 3) := by decide +kernel
theorem dX2_reckonLoans_138 : decode cX2_reckonLoans 138 = .ok (.iload_n 2, 1) := by decide +kernel
theorem dX2_reckonLoans_139 : decode cX2_reckonLoans 139 = .ok (.iastore, 1) := by decide +kernel
theorem dX2_reckonLoans_140 : decode cX2_reckonLoans 140 = .ok (.return_, 1) := by decide +kernel
set_option maxRecDepth 20000 in
theorem ggX2_loanMarginsOfBranch_X0_ownMargin : GoodIn wsX2_loanMarginsOfBranch wsX0_ownMargin := goodIn_r _ [5, 6, 7, 8, 3, 9, 10, 11, 12, 13, 14, 15, 16, 17, 18, 19, 20, 21, 22, 23, 24, 25, 26, 27, 28, 29, 30, 44, 45, 46, 47, 48, 49, 50, 51] (by decide +kernel) (by decide +kernel)
set_option maxRecDepth 20000 in
theorem gX2_loanMarginsOfBranch_X0_ownMargin_n158 : GoodIn wsX2_loanMarginsOfBranch (wsX0_ownMargin) := ggX2_loanMarginsOfBranch_X0_ownMargin
theorem dX2_loanMarginsOfBranch_0 : decode cX2_loanMarginsOfBranch 0 = .ok (.iconst 0, 1) := by decide +kernel
theorem dX2_loanMarginsOfBranch_1 : decode cX2_loanMarginsOfBranch 1 = .ok (.istore_n 2, 1) := by decide +kernel
theorem dX2_loanMarginsOfBranch_2 : decode cX2_loanMarginsOfBranch 2 = .ok (.aload_n 0, 1) := by decide +kernel
theorem dX2_loanMarginsOfBranch_3 : decode cX2_loanMarginsOfBranch 3 = .ok (.getfield 28, 3) := by decide +kernel
theorem dX2_loanMarginsOfBranch_6 : decode cX2_loanMarginsOfBranch 6 = .ok (.astore_n 3, 1) := by decide +kernel
theorem dX2_loanMarginsOfBranch_7 : decode cX2_loanMarginsOfBranch 7 = .ok (.aload_n 3, 1) := by decide +kernel
theorem dX2_loanMarginsOfBranch_8 : decode cX2_loanMarginsOfBranch 8 = .ok (.arraylength, 1) := by decide +kernel
theorem dX2_loanMarginsOfBranch_9 : decode cX2_loanMarginsOfBranch 9 = .ok (.istore 4, 2) := by decide +kernel
theorem dX2_loanMarginsOfBranch_11 : decode cX2_loanMarginsOfBranch 11 = .ok (.iconst 0, 1) := by decide +kernel
theorem dX2_loanMarginsOfBranch_12 : decode cX2_loanMarginsOfBranch 12 = .ok (.istore 5, 2) := by decide +kernel
theorem dX2_loanMarginsOfBranch_14 : decode cX2_loanMarginsOfBranch 14 = .ok (.iload 5, 2) := by decide +kernel
theorem dX2_loanMarginsOfBranch_16 : decode cX2_loanMarginsOfBranch 16 = .ok (.iload 4, 2) := by decide +kernel
theorem dX2_loanMarginsOfBranch_18 : decode cX2_loanMarginsOfBranch 18 = .ok (.if_icmp .ge 37, 3) := by decide +kernel
theorem dX2_loanMarginsOfBranch_21 : decode cX2_loanMarginsOfBranch 21 = .ok (.aload_n 3, 1) := by decide +kernel
theorem dX2_loanMarginsOfBranch_22 : decode cX2_loanMarginsOfBranch 22 = .ok (.iload 5, 2) := by decide +kernel
theorem dX2_loanMarginsOfBranch_24 : decode cX2_loanMarginsOfBranch 24 = .ok (.aaload, 1) := by decide +kernel
theorem dX2_loanMarginsOfBranch_25 : decode cX2_loanMarginsOfBranch 25 = .ok (.astore 6, 2) := by decide +kernel
theorem dX2_loanMarginsOfBranch_27 : decode cX2_loanMarginsOfBranch 27 = .ok (.aload 6, 2) := by decide +kernel
theorem dX2_loanMarginsOfBranch_29 : decode cX2_loanMarginsOfBranch 29 = .ok (.ifnull 20, 3) := by decide +kernel
theorem dX2_loanMarginsOfBranch_32 : decode cX2_loanMarginsOfBranch 32 = .ok (.aload 6, 2) := by decide +kernel
theorem dX2_loanMarginsOfBranch_34 : decode cX2_loanMarginsOfBranch 34 = .ok (.getfield 201, 3) := by decide +kernel
theorem dX2_loanMarginsOfBranch_37 : decode cX2_loanMarginsOfBranch 37 = .ok (.iload_n 1, 1) := by decide +kernel
theorem dX2_loanMarginsOfBranch_38 : decode cX2_loanMarginsOfBranch 38 = .ok (.if_icmp .ne 11, 3) := by decide +kernel
theorem dX2_loanMarginsOfBranch_41 : decode cX2_loanMarginsOfBranch 41 = .ok (.iload_n 2, 1) := by decide +kernel
theorem dX2_loanMarginsOfBranch_42 : decode cX2_loanMarginsOfBranch 42 = .ok (.aload 6, 2) := by decide +kernel
theorem dX2_loanMarginsOfBranch_44 : decode cX2_loanMarginsOfBranch 44 = .ok (.invokevirtual 158, 3) := by decide +kernel
theorem dX2_loanMarginsOfBranch_47 : decode cX2_loanMarginsOfBranch 47 = .ok (.iadd, 1) := by decide +kernel
theorem dX2_loanMarginsOfBranch_48 : decode cX2_loanMarginsOfBranch 48 = .ok (.istore_n 2, 1) := by decide +kernel
theorem dX2_loanMarginsOfBranch_49 : decode cX2_loanMarginsOfBranch 49 = .ok (.iinc 5 1, 3) := by decide +kernel
theorem dX2_loanMarginsOfBranch_52 : decode cX2_loanMarginsOfBranch 52 = .ok (.goto (-38), 3) := by decide +kernel
theorem dX2_loanMarginsOfBranch_55 : decode cX2_loanMarginsOfBranch 55 = .ok (.iload_n 2, 1) := by decide +kernel
theorem dX2_loanMarginsOfBranch_56 : decode cX2_loanMarginsOfBranch 56 = .ok (.ireturn, 1) := by decide +kernel
set_option maxRecDepth 20000 in
theorem ggX2_loanMarginsOfProduct_X0_ownMargin : GoodIn wsX2_loanMarginsOfProduct wsX0_ownMargin := goodIn_r _ [5, 6, 7, 8, 3, 9, 10, 11, 12, 13, 14, 15, 16, 17, 18, 19, 20, 21, 22, 23, 24, 25, 26, 27, 28, 29, 30, 44, 45, 46, 47, 48, 49, 50, 51] (by decide +kernel) (by decide +kernel)
set_option maxRecDepth 20000 in
theorem gX2_loanMarginsOfProduct_X0_ownMargin_n158 : GoodIn wsX2_loanMarginsOfProduct (wsX0_ownMargin) := ggX2_loanMarginsOfProduct_X0_ownMargin
theorem dX2_loanMarginsOfProduct_0 : decode cX2_loanMarginsOfProduct 0 = .ok (.iconst 0, 1) := by decide +kernel
theorem dX2_loanMarginsOfProduct_1 : decode cX2_loanMarginsOfProduct 1 = .ok (.istore_n 2, 1) := by decide +kernel
theorem dX2_loanMarginsOfProduct_2 : decode cX2_loanMarginsOfProduct 2 = .ok (.aload_n 0, 1) := by decide +kernel
theorem dX2_loanMarginsOfProduct_3 : decode cX2_loanMarginsOfProduct 3 = .ok (.getfield 28, 3) := by decide +kernel
theorem dX2_loanMarginsOfProduct_6 : decode cX2_loanMarginsOfProduct 6 = .ok (.astore_n 3, 1) := by decide +kernel
theorem dX2_loanMarginsOfProduct_7 : decode cX2_loanMarginsOfProduct 7 = .ok (.aload_n 3, 1) := by decide +kernel
theorem dX2_loanMarginsOfProduct_8 : decode cX2_loanMarginsOfProduct 8 = .ok (.arraylength, 1) := by decide +kernel
theorem dX2_loanMarginsOfProduct_9 : decode cX2_loanMarginsOfProduct 9 = .ok (.istore 4, 2) := by decide +kernel
theorem dX2_loanMarginsOfProduct_11 : decode cX2_loanMarginsOfProduct 11 = .ok (.iconst 0, 1) := by decide +kernel
theorem dX2_loanMarginsOfProduct_12 : decode cX2_loanMarginsOfProduct 12 = .ok (.istore 5, 2) := by decide +kernel
theorem dX2_loanMarginsOfProduct_14 : decode cX2_loanMarginsOfProduct 14 = .ok (.iload 5, 2) := by decide +kernel
theorem dX2_loanMarginsOfProduct_16 : decode cX2_loanMarginsOfProduct 16 = .ok (.iload 4, 2) := by decide +kernel
theorem dX2_loanMarginsOfProduct_18 : decode cX2_loanMarginsOfProduct 18 = .ok (.if_icmp .ge 37, 3) := by decide +kernel
theorem dX2_loanMarginsOfProduct_21 : decode cX2_loanMarginsOfProduct 21 = .ok (.aload_n 3, 1) := by decide +kernel
theorem dX2_loanMarginsOfProduct_22 : decode cX2_loanMarginsOfProduct 22 = .ok (.iload 5, 2) := by decide +kernel
theorem dX2_loanMarginsOfProduct_24 : decode cX2_loanMarginsOfProduct 24 = .ok (.aaload, 1) := by decide +kernel
theorem dX2_loanMarginsOfProduct_25 : decode cX2_loanMarginsOfProduct 25 = .ok (.astore 6, 2) := by decide +kernel
theorem dX2_loanMarginsOfProduct_27 : decode cX2_loanMarginsOfProduct 27 = .ok (.aload 6, 2) := by decide +kernel
theorem dX2_loanMarginsOfProduct_29 : decode cX2_loanMarginsOfProduct 29 = .ok (.ifnull 20, 3) := by decide +kernel
theorem dX2_loanMarginsOfProduct_32 : decode cX2_loanMarginsOfProduct 32 = .ok (.aload 6, 2) := by decide +kernel
theorem dX2_loanMarginsOfProduct_34 : decode cX2_loanMarginsOfProduct 34 = .ok (.getfield 204, 3) := by decide +kernel
theorem dX2_loanMarginsOfProduct_37 : decode cX2_loanMarginsOfProduct 37 = .ok (.iload_n 1, 1) := by decide +kernel
theorem dX2_loanMarginsOfProduct_38 : decode cX2_loanMarginsOfProduct 38 = .ok (.if_icmp .ne 11, 3) := by decide +kernel
theorem dX2_loanMarginsOfProduct_41 : decode cX2_loanMarginsOfProduct 41 = .ok (.iload_n 2, 1) := by decide +kernel
theorem dX2_loanMarginsOfProduct_42 : decode cX2_loanMarginsOfProduct 42 = .ok (.aload 6, 2) := by decide +kernel
theorem dX2_loanMarginsOfProduct_44 : decode cX2_loanMarginsOfProduct 44 = .ok (.invokevirtual 158, 3) := by decide +kernel
theorem dX2_loanMarginsOfProduct_47 : decode cX2_loanMarginsOfProduct 47 = .ok (.iadd, 1) := by decide +kernel
theorem dX2_loanMarginsOfProduct_48 : decode cX2_loanMarginsOfProduct 48 = .ok (.istore_n 2, 1) := by decide +kernel
theorem dX2_loanMarginsOfProduct_49 : decode cX2_loanMarginsOfProduct 49 = .ok (.iinc 5 1, 3) := by decide +kernel
theorem dX2_loanMarginsOfProduct_52 : decode cX2_loanMarginsOfProduct 52 = .ok (.goto (-38), 3) := by decide +kernel
theorem dX2_loanMarginsOfProduct_55 : decode cX2_loanMarginsOfProduct 55 = .ok (.iload_n 2, 1) := by decide +kernel
theorem dX2_loanMarginsOfProduct_56 : decode cX2_loanMarginsOfProduct 56 = .ok (.ireturn, 1) := by decide +kernel
set_option maxRecDepth 20000 in
theorem ggX2_reckonDeposits_X1_averageRate : GoodIn wsX2_reckonDeposits wsX1_averageRate := goodIn_r _ [11, 12, 13, 43, 44] (by decide +kernel) (by decide +kernel)
set_option maxRecDepth 20000 in
theorem gX2_reckonDeposits_X1_averageRate_n174 : GoodIn wsX2_reckonDeposits (wsX1_averageRate) := ggX2_reckonDeposits_X1_averageRate
set_option maxRecDepth 20000 in
theorem ggX2_reckonDeposits_X2_paidForDeposits : GoodIn wsX2_reckonDeposits wsX2_paidForDeposits := goodIn_r _ [18, 19, 20, 21, 22, 17, 23, 24, 25, 26, 27, 28, 29, 30, 31, 32, 33, 34, 35, 36, 37, 38, 39, 40, 41, 42] (by decide +kernel) (by decide +kernel)
set_option maxRecDepth 20000 in
theorem gX2_reckonDeposits_X2_paidForDeposits : GoodIn wsX2_reckonDeposits (wsV RX2 207 RX2 yX2_paidForDeposits wsX2_paidForDeposits) := goodIn_app (goodIn_of _ (by decide +kernel)) ggX2_reckonDeposits_X2_paidForDeposits
set_option maxRecDepth 20000 in
theorem ggX2_reckonDeposits_X2_forOneMonth : GoodIn wsX2_reckonDeposits wsX2_forOneMonth := goodIn_r _ [28, 29] (by decide +kernel) (by decide +kernel)
set_option maxRecDepth 20000 in
theorem gX2_reckonDeposits_X2_forOneMonth : GoodIn wsX2_reckonDeposits (va_wsS RX2 211 yX2_forOneMonth wsX2_forOneMonth) := goodIn_app (goodIn_of _ (by decide +kernel)) ggX2_reckonDeposits_X2_forOneMonth
theorem dX2_reckonDeposits_0 : decode cX2_reckonDeposits 0 = .ok (.aload_n 0, 1) := by decide +kernel
theorem dX2_reckonDeposits_1 : decode cX2_reckonDeposits 1 = .ok (.getfield 41, 3) := by decide +kernel
theorem dX2_reckonDeposits_4 : decode cX2_reckonDeposits 4 = .ok (.invokevirtual 174, 3) := by decide +kernel
theorem dX2_reckonDeposits_7 : decode cX2_reckonDeposits 7 = .ok (.istore_n 1, 1) := by decide +kernel
theorem dX2_reckonDeposits_8 : decode cX2_reckonDeposits 8 = .ok (.iconst 0, 1) := by decide +kernel
theorem dX2_reckonDeposits_9 : decode cX2_reckonDeposits 9 = .ok (.istore_n 2, 1) := by decide +kernel
theorem dX2_reckonDeposits_10 : decode cX2_reckonDeposits 10 = .ok (.iload_n 2, 1) := by decide +kernel
theorem dX2_reckonDeposits_11 : decode cX2_reckonDeposits 11 = .ok (.iconst 3, 1) := by decide +kernel
theorem dX2_reckonDeposits_12 : decode cX2_reckonDeposits 12 = .ok (.if_icmp .ge 84, 3) := by decide +kernel
theorem dX2_reckonDeposits_15 : decode cX2_reckonDeposits 15 = .ok (.aload_n 0, 1) := by decide +kernel
theorem dX2_reckonDeposits_16 : decode cX2_reckonDeposits 16 = .ok (.aload_n 0, 1) := by decide +kernel
theorem dX2_reckonDeposits_17 : decode cX2_reckonDeposits 17 = .ok (.getfield 35, 3) := by decide +kernel
theorem dX2_reckonDeposits_20 : decode cX2_reckonDeposits 20 = .ok (.iload_n 2, 1) := by decide +kernel
theorem dX2_reckonDeposits_21 : decode cX2_reckonDeposits 21 = .ok (.iaload, 1) := by decide +kernel
theorem dX2_reckonDeposits_22 : decode cX2_reckonDeposits 22 = .ok (.iload_n 1, 1) := by decide +kernel
theorem dX2_reckonDeposits_23 : decode cX2_reckonDeposits 23 = .ok (.invokevirtual 207, 3) := by decide +kernel
theorem dX2_reckonDeposits_26 : decode cX2_reckonDeposits 26 = .ok (.istore_n 3, 1) := by decide +kernel
theorem dX2_reckonDeposits_27 : decode cX2_reckonDeposits 27 = .ok (.aload_n 0, 1) := by decide +kernel
theorem dX2_reckonDeposits_28 : decode cX2_reckonDeposits 28 = .ok (.getfield 35, 3) := by decide +kernel
theorem dX2_reckonDeposits_31 : decode cX2_reckonDeposits 31 = .ok (.iload_n 2, 1) := by decide +kernel
theorem dX2_reckonDeposits_32 : decode cX2_reckonDeposits 32 = .ok (.iaload, 1) := by decide +kernel
theorem dX2_reckonDeposits_33 : decode cX2_reckonDeposits 33 = .ok (.i2l, 1) := by decide +kernel
theorem dX2_reckonDeposits_34 : decode cX2_reckonDeposits 34 = .ok (.aload_n 0, 1) := by decide +kernel
theorem dX2_reckonDeposits_35 : decode cX2_reckonDeposits 35 = .ok (.getfield 13, 3) := by decide +kernel
theorem dX2_reckonDeposits_38 : decode cX2_reckonDeposits 38 = .ok (.i2l, 1) := by decide +kernel
theorem dX2_reckonDeposits_39 : decode cX2_reckonDeposits 39 = .ok (.lmul, 1) := by decide +kernel
theorem dX2_reckonDeposits_40 : decode cX2_reckonDeposits 40 = .ok (.invokestatic 211, 3) := by decide +kernel
theorem dX2_reckonDeposits_43 : decode cX2_reckonDeposits 43 = .ok (.istore 4, 2) := by decide +kernel
theorem dX2_reckonDeposits_45 : decode cX2_reckonDeposits 45 = .ok (.aload_n 0, 1) := by decide +kernel
theorem dX2_reckonDeposits_46 : decode cX2_reckonDeposits 46 = .ok (.getfield 47, 3) := by decide +kernel
theorem dX2_reckonDeposits_49 : decode cX2_reckonDeposits 49 = .ok (.iload_n 2, 1) := by decide +kernel
theorem dX2_reckonDeposits_50 : decode cX2_reckonDeposits 50 = .ok (.aaload, 1) := by decide +kernel
theorem dX2_reckonDeposits_51 : decode cX2_reckonDeposits 51 = .ok (.aload_n 0, 1) := by decide +kernel
theorem dX2_reckonDeposits_52 : decode cX2_reckonDeposits 52 = .ok (.getfield 23, 3) := by decide +kernel
theorem dX2_reckonDeposits_55 : decode cX2_reckonDeposits 55 = .ok (.dup2, 1) := by decide +kernel
theorem dX2_reckonDeposits_56 : decode cX2_reckonDeposits 56 = .ok (.iaload, 1) := by decide +kernel
theorem dX2_reckonDeposits_57 : decode cX2_reckonDeposits 57 = .ok (.iload_n 3, 1) := by decide +kernel
theorem dX2_reckonDeposits_58 : decode cX2_reckonDeposits 58 = .ok (.iload 4, 2) := by decide +kernel
theorem dX2_reckonDeposits_60 : decode cX2_reckonDeposits 60 = .ok (.isub, 1) := by decide +kernel
theorem dX2_reckonDeposits_61 : decode cX2_reckonDeposits 61 = .ok (.iadd, 1) := by decide +kernel
theorem dX2_reckonDeposits_62 : decode cX2_reckonDeposits 62 = .ok (.iastore, 1) := by decide +kernel
theorem dX2_reckonDeposits_63 : decode cX2_reckonDeposits 63 = .ok (.aload_n 0, 1) := by decide +kernel
theorem dX2_reckonDeposits_64 : decode cX2_reckonDeposits 64 = .ok (.getfield 53, 3) := by decide +kernel
theorem dX2_reckonDeposits_67 : decode cX2_reckonDeposits 67 = .ok (.aload_n 0, 1) := by decide +kernel
theorem dX2_reckonDeposits_68 : decode cX2_reckonDeposits 68 = .ok (.getfield 23, 3) := by decide +kernel
theorem dX2_reckonDeposits_71 : decode cX2_reckonDeposits 71 = .ok (.dup2, 1) := by decide +kernel
theorem dX2_reckonDeposits_72 : decode cX2_reckonDeposits 72 = .ok (.iaload, 1) := by decide +kernel
theorem dX2_reckonDeposits_73 : decode cX2_reckonDeposits 73 = .ok (.iload_n 3, 1) := by decide +kernel
theorem dX2_reckonDeposits_74 : decode cX2_reckonDeposits 74 = .ok (.isub, 1) := by decide +kernel
theorem dX2_reckonDeposits_75 : decode cX2_reckonDeposits 75 = .ok (.iastore, 1) := by decide +kernel
theorem dX2_reckonDeposits_76 : decode cX2_reckonDeposits 76 = .ok (.aload_n 0, 1) := by decide +kernel
theorem dX2_reckonDeposits_77 : decode cX2_reckonDeposits 77 = .ok (.getfield 56, 3) := by decide +kernel
theorem dX2_reckonDeposits_80 : decode cX2_reckonDeposits 80 = .ok (.aload_n 0, 1) := by decide +kernel
theorem dX2_reckonDeposits_81 : decode cX2_reckonDeposits 81 = .ok (.getfield 23, 3) := by decide +kernel
theorem dX2_reckonDeposits_84 : decode cX2_reckonDeposits 84 = .ok (.dup2, 1) := by decide +kernel
theorem dX2_reckonDeposits_85 : decode cX2_reckonDeposits 85 = .ok (.iaload, 1) := by decide +kernel
theorem dX2_reckonDeposits_86 : decode cX2_reckonDeposits 86 = .ok (.iload 4, 2) := by decide +kernel
theorem dX2_reckonDeposits_88 : decode cX2_reckonDeposits 88 = .ok (.isub, 1) := by decide +kernel
theorem dX2_reckonDeposits_89 : decode cX2_reckonDeposits 89 = .ok (.iastore, 1) := by decide +kernel
theorem dX2_reckonDeposits_90 : decode cX2_reckonDeposits 90 = .ok (.iinc 2 1, 3) := by decide +kernel
theorem dX2_reckonDeposits_93 : decode cX2_reckonDeposits 93 = .ok (.goto (-83), 3) := by decide +kernel
theorem dX2_reckonDeposits_96 : decode cX2_reckonDeposits 96 = .ok (.return_, 1) := by decide +kernel
set_option maxRecDepth 20000 in
theorem ggX2_paidForDeposits_X2_coreOf : GoodIn wsX2_paidForDeposits wsX2_coreOf := goodIn_r _ [6, 7, 8, 13, 14, 15, 16, 17, 18, 19, 20, 21, 22, 23, 24, 25] (by decide +kernel) (by decide +kernel)
set_option maxRecDepth 20000 in
theorem gX2_paidForDeposits_X2_coreOf : GoodIn wsX2_paidForDeposits (wsV RX2 191 RX2 yX2_coreOf wsX2_coreOf) := goodIn_app (goodIn_of _ (by decide +kernel)) ggX2_paidForDeposits_X2_coreOf
set_option maxRecDepth 20000 in
theorem ggX2_paidForDeposits_X2_forOneMonth : GoodIn wsX2_paidForDeposits wsX2_forOneMonth := goodIn_r _ [11, 12] (by decide +kernel) (by decide +kernel)
set_option maxRecDepth 20000 in
theorem gX2_paidForDeposits_X2_forOneMonth : GoodIn wsX2_paidForDeposits (va_wsS RX2 211 yX2_forOneMonth wsX2_forOneMonth) := goodIn_app (goodIn_of _ (by decide +kernel)) ggX2_paidForDeposits_X2_forOneMonth
theorem dX2_paidForDeposits_0 : decode cX2_paidForDeposits 0 = .ok (.aload_n 0, 1) := by decide +kernel
theorem dX2_paidForDeposits_1 : decode cX2_paidForDeposits 1 = .ok (.iload_n 1, 1) := by decide +kernel
theorem dX2_paidForDeposits_2 : decode cX2_paidForDeposits 2 = .ok (.i2l, 1) := by decide +kernel
theorem dX2_paidForDeposits_3 : decode cX2_paidForDeposits 3 = .ok (.invokevirtual 191, 3) := by decide +kernel
theorem dX2_paidForDeposits_6 : decode cX2_paidForDeposits 6 = .ok (.istore_n 3, 1) := by decide +kernel
theorem dX2_paidForDeposits_7 : decode cX2_paidForDeposits 7 = .ok (.iload_n 1, 1) := by decide +kernel
theorem dX2_paidForDeposits_8 : decode cX2_paidForDeposits 8 = .ok (.iload_n 3, 1) := by decide +kernel
theorem dX2_paidForDeposits_9 : decode cX2_paidForDeposits 9 = .ok (.isub, 1) := by decide +kernel
theorem dX2_paidForDeposits_10 : decode cX2_paidForDeposits 10 = .ok (.istore 4, 2) := by decide +kernel
theorem dX2_paidForDeposits_12 : decode cX2_paidForDeposits 12 = .ok (.iload_n 3, 1) := by decide +kernel
theorem dX2_paidForDeposits_13 : decode cX2_paidForDeposits 13 = .ok (.i2l, 1) := by decide +kernel
theorem dX2_paidForDeposits_14 : decode cX2_paidForDeposits 14 = .ok (.iload_n 2, 1) := by decide +kernel
theorem dX2_paidForDeposits_15 : decode cX2_paidForDeposits 15 = .ok (.i2l, 1) := by decide +kernel
theorem dX2_paidForDeposits_16 : decode cX2_paidForDeposits 16 = .ok (.lmul, 1) := by decide +kernel
theorem dX2_paidForDeposits_17 : decode cX2_paidForDeposits 17 = .ok (.iload 4, 2) := by decide +kernel
theorem dX2_paidForDeposits_19 : decode cX2_paidForDeposits 19 = .ok (.i2l, 1) := by decide +kernel
theorem dX2_paidForDeposits_20 : decode cX2_paidForDeposits 20 = .ok (.aload_n 0, 1) := by decide +kernel
theorem dX2_paidForDeposits_21 : decode cX2_paidForDeposits 21 = .ok (.getfield 9, 3) := by decide +kernel
theorem dX2_paidForDeposits_24 : decode cX2_paidForDeposits 24 = .ok (.iconst 0, 1) := by decide +kernel
theorem dX2_paidForDeposits_25 : decode cX2_paidForDeposits 25 = .ok (.iaload, 1) := by decide +kernel
theorem dX2_paidForDeposits_26 : decode cX2_paidForDeposits 26 = .ok (.i2l, 1) := by decide +kernel
theorem dX2_paidForDeposits_27 : decode cX2_paidForDeposits 27 = .ok (.lmul, 1) := by decide +kernel
theorem dX2_paidForDeposits_28 : decode cX2_paidForDeposits 28 = .ok (.ladd, 1) := by decide +kernel
theorem dX2_paidForDeposits_29 : decode cX2_paidForDeposits 29 = .ok (.invokestatic 211, 3) := by decide +kernel
theorem dX2_paidForDeposits_32 : decode cX2_paidForDeposits 32 = .ok (.ireturn, 1) := by decide +kernel
set_option maxRecDepth 20000 in
theorem ggX2_payParts_X0_payPart : GoodIn wsX2_payParts wsX0_payPart := goodIn_r _ [5, 6, 20, 21, 22, 23, 24, 25, 26, 27] (by decide +kernel) (by decide +kernel)
set_option maxRecDepth 20000 in
theorem gX2_payParts_X0_payPart_n214 : GoodIn wsX2_payParts (wsX0_payPart) := ggX2_payParts_X0_payPart
theorem dX2_payParts_0 : decode cX2_payParts 0 = .ok (.aload_n 0, 1) := by decide +kernel
theorem dX2_payParts_1 : decode cX2_payParts 1 = .ok (.getfield 28, 3) := by decide +kernel
theorem dX2_payParts_4 : decode cX2_payParts 4 = .ok (.astore_n 1, 1) := by decide +kernel
theorem dX2_payParts_5 : decode cX2_payParts 5 = .ok (.aload_n 1, 1) := by decide +kernel
theorem dX2_payParts_6 : decode cX2_payParts 6 = .ok (.arraylength, 1) := by decide +kernel
theorem dX2_payParts_7 : decode cX2_payParts 7 = .ok (.istore_n 2, 1) := by decide +kernel
theorem dX2_payParts_8 : decode cX2_payParts 8 = .ok (.iconst 0, 1) := by decide +kernel
theorem dX2_payParts_9 : decode cX2_payParts 9 = .ok (.istore_n 3, 1) := by decide +kernel
theorem dX2_payParts_10 : decode cX2_payParts 10 = .ok (.iload_n 3, 1) := by decide +kernel
theorem dX2_payParts_11 : decode cX2_payParts 11 = .ok (.iload_n 2, 1) := by decide +kernel
theorem dX2_payParts_12 : decode cX2_payParts 12 = .ok (.if_icmp .ge 24, 3) := by decide +kernel
theorem dX2_payParts_15 : decode cX2_payParts 15 = .ok (.aload_n 1, 1) := by decide +kernel
theorem dX2_payParts_16 : decode cX2_payParts 16 = .ok (.iload_n 3, 1) := by decide +kernel
theorem dX2_payParts_17 : decode cX2_payParts 17 = .ok (.aaload, 1) := by decide +kernel
theorem dX2_payParts_18 : decode cX2_payParts 18 = .ok (.astore 4, 2) := by decide +kernel
theorem dX2_payParts_20 : decode cX2_payParts 20 = .ok (.aload 4, 2) := by decide +kernel
theorem dX2_payParts_22 : decode cX2_payParts 22 = .ok (.ifnull 8, 3) := by decide +kernel
theorem dX2_payParts_25 : decode cX2_payParts 25 = .ok (.aload 4, 2) := by decide +kernel
theorem dX2_payParts_27 : decode cX2_payParts 27 = .ok (.invokevirtual 214, 3) := by decide +kernel
theorem dX2_payParts_30 : decode cX2_payParts 30 = .ok (.iinc 3 1, 3) := by decide +kernel
theorem dX2_payParts_33 : decode cX2_payParts 33 = .ok (.goto (-23), 3) := by decide +kernel
theorem dX2_payParts_36 : decode cX2_payParts 36 = .ok (.return_, 1) := by decide +kernel
end
section
theorem dX3_init_0 : decode cX3_init 0 = .ok (.aload_n 0, 1) := by decide +kernel
theorem dX3_init_1 : decode cX3_init 1 = .ok (.invokespecial 1, 3) := by decide +kernel
theorem dX3_init_4 : decode cX3_init 4 = .ok (.aload_n 0, 1) := by decide +kernel
theorem dX3_init_5 : decode cX3_init 5 = .ok (.bipush 7, 2) := by decide +kernel
theorem dX3_init_7 : decode cX3_init 7 = .ok (.newarray .int, 2) := by decide +kernel
theorem dX3_init_9 : decode cX3_init 9 = .ok (.putfield 7, 3) := by decide +kernel
theorem dX3_init_12 : decode cX3_init 12 = .ok (.aload_n 0, 1) := by decide +kernel
theorem dX3_init_13 : decode cX3_init 13 = .ok (.bipush 50, 2) := by decide +kernel
theorem dX3_init_15 : decode cX3_init 15 = .ok (.putfield 13, 3) := by decide +kernel
theorem dX3_init_18 : decode cX3_init 18 = .ok (.aload_n 0, 1) := by decide +kernel
theorem dX3_init_19 : decode cX3_init 19 = .ok (.bipush 24, 2) := by decide +kernel
theorem dX3_init_21 : decode cX3_init 21 = .ok (.newarray .int, 2) := by decide +kernel
theorem dX3_init_23 : decode cX3_init 23 = .ok (.putfield 17, 3) := by decide +kernel
theorem dX3_init_26 : decode cX3_init 26 = .ok (.aload_n 0, 1) := by decide +kernel
theorem dX3_init_27 : decode cX3_init 27 = .ok (.bipush 24, 2) := by decide +kernel
theorem dX3_init_29 : decode cX3_init 29 = .ok (.newarray .int, 2) := by decide +kernel
theorem dX3_init_31 : decode cX3_init 31 = .ok (.putfield 20, 3) := by decide +kernel
theorem dX3_init_34 : decode cX3_init 34 = .ok (.aload_n 0, 1) := by decide +kernel
theorem dX3_init_35 : decode cX3_init 35 = .ok (.bipush 24, 2) := by decide +kernel
theorem dX3_init_37 : decode cX3_init 37 = .ok (.newarray .int, 2) := by decide +kernel
theorem dX3_init_39 : decode cX3_init 39 = .ok (.putfield 23, 3) := by decide +kernel
theorem dX3_init_42 : decode cX3_init 42 = .ok (.aload_n 0, 1) := by decide +kernel
theorem dX3_init_43 : decode cX3_init 43 = .ok (.bipush 24, 2) := by decide +kernel
theorem dX3_init_45 : decode cX3_init 45 = .ok (.newarray .int, 2) := by decide +kernel
theorem dX3_init_47 : decode cX3_init 47 = .ok (.putfield 26, 3) := by decide +kernel
theorem dX3_init_50 : decode cX3_init 50 = .ok (.aload_n 0, 1) := by decide +kernel
theorem dX3_init_51 : decode cX3_init 51 = .ok (.bipush 24, 2) := by decide +kernel
theorem dX3_init_53 : decode cX3_init 53 = .ok (.newarray .boolean, 2) := by decide +kernel
theorem dX3_init_55 : decode cX3_init 55 = .ok (.putfield 29, 3) := by decide +kernel
theorem dX3_init_58 : decode cX3_init 58 = .ok (.aload_n 0, 1) := by decide +kernel
theorem dX3_init_59 : decode cX3_init 59 = .ok (.bipush 24, 2) := by decide +kernel
theorem dX3_init_61 : decode cX3_init 61 = .ok (.newarray .int, 2) := by decide +kernel
theorem dX3_init_63 : decode cX3_init 63 = .ok (.putfield 33, 3) := by decide +kernel
theorem dX3_init_66 : decode cX3_init 66 = .ok (.aload_n 0, 1) := by decide +kernel
theorem dX3_init_67 : decode cX3_init 67 = .ok (.sipush 144, 3) := by decide +kernel
theorem dX3_init_70 : decode cX3_init 70 = .ok (.newarray .int, 2) := by decide +kernel
theorem dX3_init_72 : decode cX3_init 72 = .ok (.putfield 36, 3) := by decide +kernel
theorem dX3_init_75 : decode cX3_init 75 = .ok (.aload_n 0, 1) := by decide +kernel
theorem dX3_init_76 : decode cX3_init 76 = .ok (.sipush 144, 3) := by decide +kernel
theorem dX3_init_79 : decode cX3_init 79 = .ok (.newarray .int, 2) := by decide +kernel
theorem dX3_init_81 : decode cX3_init 81 = .ok (.putfield 39, 3) := by decide +kernel
theorem dX3_init_84 : decode cX3_init 84 = .ok (.aload_n 0, 1) := by decide +kernel
theorem dX3_init_85 : decode cX3_init 85 = .ok (.iconst 3, 1) := by decide +kernel
theorem dX3_init_86 : decode cX3_init 86 = .ok (.newarray .int, 2) := by decide +kernel
theorem dX3_init_88 : decode cX3_init 88 = .ok (.putfield 42, 3) := by decide +kernel
theorem dX3_init_91 : decode cX3_init 91 = .ok (.aload_n 0, 1) := by decide +kernel
theorem dX3_init_92 : decode cX3_init 92 = .ok (.bipush 6, 2) := by decide +kernel
theorem dX3_init_94 : decode cX3_init 94 = .ok (.newarray .int, 2) := by decide +kernel
theorem dX3_init_96 : decode cX3_init 96 = .ok (.putfield 45, 3) := by decide +kernel
theorem dX3_init_99 : decode cX3_init 99 = .ok (.aload_n 0, 1) := by decide +kernel
theorem dX3_init_100 : decode cX3_init 100 = .ok (.bipush 6, 2) := by decide +kernel
theorem dX3_init_102 : decode cX3_init 102 = .ok (.newarray .int, 2) := by decide +kernel
theorem dX3_init_104 : decode cX3_init 104 = .ok (.putfield 48, 3) := by decide +kernel
theorem dX3_init_107 : decode cX3_init 107 = .ok (.aload_n 0, 1) := by decide +kernel
theorem dX3_init_108 : decode cX3_init 108 = .ok (.sipush 144, 3) := by decide +kernel
theorem dX3_init_111 : decode cX3_init 111 = .ok (.newarray .int, 2) := by decide +kernel
theorem dX3_init_113 : decode cX3_init 113 = .ok (.putfield 51, 3) := by decide +kernel
theorem dX3_init_116 : decode cX3_init 116 = .ok (.aload_n 0, 1) := by decide +kernel
theorem dX3_init_117 : decode cX3_init 117 = .ok (.sipush 144, 3) := by decide +kernel
theorem dX3_init_120 : decode cX3_init 120 = .ok (.newarray .int, 2) := by decide +kernel
theorem dX3_init_122 : decode cX3_init 122 = .ok (.putfield 54, 3) := by decide +kernel
theorem dX3_init_125 : decode cX3_init 125 = .ok (.aload_n 0, 1) := by decide +kernel
theorem dX3_init_126 : decode cX3_init 126 = .ok (.bipush 48, 2) := by decide +kernel
theorem dX3_init_128 : decode cX3_init 128 = .ok (.newarray .int, 2) := by decide +kernel
theorem dX3_init_130 : decode cX3_init 130 = .ok (.putfield 57, 3) := by decide +kernel
theorem dX3_init_133 : decode cX3_init 133 = .ok (.aload_n 0, 1) := by decide +kernel
theorem dX3_init_134 : decode cX3_init 134 = .ok (.bipush 48, 2) := by decide +kernel
theorem dX3_init_136 : decode cX3_init 136 = .ok (.newarray .int, 2) := by decide +kernel
theorem dX3_init_138 : decode cX3_init 138 = .ok (.putfield 60, 3) := by decide +kernel
theorem dX3_init_141 : decode cX3_init 141 = .ok (.return_, 1) := by decide +kernel
theorem dX3_thrown_0 : decode cX3_thrown 0 = .ok (.aload_n 0, 1) := by decide +kernel
theorem dX3_thrown_1 : decode cX3_thrown 1 = .ok (.getfield 63, 3) := by decide +kernel
theorem dX3_thrown_4 : decode cX3_thrown 4 = .ok (.ireturn, 1) := by decide +kernel
theorem dX3_fails_0 : decode cX3_fails 0 = .ok (.aload_n 0, 1) := by decide +kernel
theorem dX3_fails_1 : decode cX3_fails 1 = .ok (.iload_n 1, 1) := by decide +kernel
theorem dX3_fails_2 : decode cX3_fails 2 = .ok (.putfield 63, 3) := by decide +kernel
theorem dX3_fails_5 : decode cX3_fails 5 = .ok (.iconst 0, 1) := by decide +kernel
theorem dX3_fails_6 : decode cX3_fails 6 = .ok (.ireturn, 1) := by decide +kernel
theorem dX3_in_0 : decode cX3_in 0 = .ok (.iload_n 0, 1) := by decide +kernel
theorem dX3_in_1 : decode cX3_in 1 = .ok (.iload_n 1, 1) := by decide +kernel
theorem dX3_in_2 : decode cX3_in 2 = .ok (.if_icmp .lt 12, 3) := by decide +kernel
theorem dX3_in_5 : decode cX3_in 5 = .ok (.iload_n 0, 1) := by decide +kernel
theorem dX3_in_6 : decode cX3_in 6 = .ok (.iload_n 2, 1) := by decide +kernel
theorem dX3_in_7 : decode cX3_in 7 = .ok (.if_icmp .gt 7, 3) := by decide +kernel
theorem dX3_in_10 : decode cX3_in 10 = .ok (.iconst 1, 1) := by decide +kernel
theorem dX3_in_11 : decode cX3_in 11 = .ok (.goto 4, 3) := by decide +kernel
theorem dX3_in_14 : decode cX3_in 14 = .ok (.iconst 0, 1) := by decide +kernel
theorem dX3_in_15 : decode cX3_in 15 = .ok (.ireturn, 1) := by decide +kernel
set_option maxRecDepth 20000 in
theorem ggX3_isLoan_X3_in : GoodIn wsX3_isLoan wsX3_in := goodIn_r _ [5] (by decide +kernel) (by decide +kernel)
set_option maxRecDepth 20000 in
theorem gX3_isLoan_X3_in : GoodIn wsX3_isLoan (va_wsS RX3 69 yX3_in wsX3_in) := goodIn_app (goodIn_of _ (by decide +kernel)) ggX3_isLoan_X3_in
theorem dX3_isLoan_0 : decode cX3_isLoan 0 = .ok (.iload_n 1, 1) := by decide +kernel
theorem dX3_isLoan_1 : decode cX3_isLoan 1 = .ok (.iconst 0, 1) := by decide +kernel
theorem dX3_isLoan_2 : decode cX3_isLoan 2 = .ok (.aload_n 0, 1) := by decide +kernel
theorem dX3_isLoan_3 : decode cX3_isLoan 3 = .ok (.getfield 66, 3) := by decide +kernel
theorem dX3_isLoan_6 : decode cX3_isLoan 6 = .ok (.iconst 1, 1) := by decide +kernel
theorem dX3_isLoan_7 : decode cX3_isLoan 7 = .ok (.isub, 1) := by decide +kernel
theorem dX3_isLoan_8 : decode cX3_isLoan 8 = .ok (.invokestatic 69, 3) := by decide +kernel
theorem dX3_isLoan_11 : decode cX3_isLoan 11 = .ok (.ireturn, 1) := by decide +kernel
set_option maxRecDepth 20000 in
theorem ggX3_isBranch_X3_in : GoodIn wsX3_isBranch wsX3_in := goodIn_r _ [4] (by decide +kernel) (by decide +kernel)
set_option maxRecDepth 20000 in
theorem gX3_isBranch_X3_in : GoodIn wsX3_isBranch (va_wsS RX3 69 yX3_in wsX3_in) := goodIn_app (goodIn_of _ (by decide +kernel)) ggX3_isBranch_X3_in
theorem dX3_isBranch_0 : decode cX3_isBranch 0 = .ok (.iload_n 0, 1) := by decide +kernel
theorem dX3_isBranch_1 : decode cX3_isBranch 1 = .ok (.iconst 0, 1) := by decide +kernel
theorem dX3_isBranch_2 : decode cX3_isBranch 2 = .ok (.iconst 2, 1) := by decide +kernel
theorem dX3_isBranch_3 : decode cX3_isBranch 3 = .ok (.invokestatic 69, 3) := by decide +kernel
theorem dX3_isBranch_6 : decode cX3_isBranch 6 = .ok (.ireturn, 1) := by decide +kernel
set_option maxRecDepth 20000 in
theorem ggX3_isEnded_X3_in : GoodIn wsX3_isEnded wsX3_in := goodIn_r _ [5] (by decide +kernel) (by decide +kernel)
set_option maxRecDepth 20000 in
theorem gX3_isEnded_X3_in : GoodIn wsX3_isEnded (va_wsS RX3 69 yX3_in wsX3_in) := goodIn_app (goodIn_of _ (by decide +kernel)) ggX3_isEnded_X3_in
theorem dX3_isEnded_0 : decode cX3_isEnded 0 = .ok (.iload_n 1, 1) := by decide +kernel
theorem dX3_isEnded_1 : decode cX3_isEnded 1 = .ok (.iconst 0, 1) := by decide +kernel
theorem dX3_isEnded_2 : decode cX3_isEnded 2 = .ok (.aload_n 0, 1) := by decide +kernel
theorem dX3_isEnded_3 : decode cX3_isEnded 3 = .ok (.getfield 73, 3) := by decide +kernel
theorem dX3_isEnded_6 : decode cX3_isEnded 6 = .ok (.iconst 1, 1) := by decide +kernel
theorem dX3_isEnded_7 : decode cX3_isEnded 7 = .ok (.isub, 1) := by decide +kernel
theorem dX3_isEnded_8 : decode cX3_isEnded 8 = .ok (.invokestatic 69, 3) := by decide +kernel
theorem dX3_isEnded_11 : decode cX3_isEnded 11 = .ok (.ireturn, 1) := by decide +kernel
set_option maxRecDepth 20000 in
theorem ggX3_setCurve_X3_in : GoodIn wsX3_setCurve wsX3_in := goodIn_r _ [6] (by decide +kernel) (by decide +kernel)
set_option maxRecDepth 20000 in
theorem gX3_setCurve_X3_in : GoodIn wsX3_setCurve (va_wsS RX3 69 yX3_in wsX3_in) := goodIn_app (goodIn_of _ (by decide +kernel)) ggX3_setCurve_X3_in
set_option maxRecDepth 20000 in
theorem ggX3_setCurve_X3_fails : GoodIn wsX3_setCurve wsX3_fails := goodIn_r _ [10, 1, 11, 12, 13, 14, 15, 16, 17, 18, 19, 20, 21, 22, 23, 24, 25, 26, 27, 28, 29, 30, 31, 32] (by decide +kernel) (by decide +kernel)
set_option maxRecDepth 20000 in
theorem gX3_setCurve_X3_fails : GoodIn wsX3_setCurve (wsV RX3 76 RX3 yX3_fails wsX3_fails) := goodIn_app (goodIn_of _ (by decide +kernel)) ggX3_setCurve_X3_fails
theorem dX3_setCurve_0 : decode cX3_setCurve 0 = .ok (.aload_n 0, 1) := by decide +kernel
theorem dX3_setCurve_1 : decode cX3_setCurve 1 = .ok (.iconst 0, 1) := by decide +kernel
theorem dX3_setCurve_2 : decode cX3_setCurve 2 = .ok (.putfield 63, 3) := by decide +kernel
theorem dX3_setCurve_5 : decode cX3_setCurve 5 = .ok (.iload_n 1, 1) := by decide +kernel
theorem dX3_setCurve_6 : decode cX3_setCurve 6 = .ok (.iconst 1, 1) := by decide +kernel
theorem dX3_setCurve_7 : decode cX3_setCurve 7 = .ok (.bipush 6, 2) := by decide +kernel
theorem dX3_setCurve_9 : decode cX3_setCurve 9 = .ok (.invokestatic 69, 3) := by decide +kernel
theorem dX3_setCurve_12 : decode cX3_setCurve 12 = .ok (.ifCond .ne 9, 3) := by decide +kernel
theorem dX3_setCurve_15 : decode cX3_setCurve 15 = .ok (.aload_n 0, 1) := by decide +kernel
theorem dX3_setCurve_16 : decode cX3_setCurve 16 = .ok (.iconst 1, 1) := by decide +kernel
theorem dX3_setCurve_17 : decode cX3_setCurve 17 = .ok (.invokevirtual 76, 3) := by decide +kernel
theorem dX3_setCurve_20 : decode cX3_setCurve 20 = .ok (.ireturn, 1) := by decide +kernel
theorem dX3_setCurve_21 : decode cX3_setCurve 21 = .ok (.iload_n 2, 1) := by decide +kernel
theorem dX3_setCurve_22 : decode cX3_setCurve 22 = .ok (.iconst 0, 1) := by decide +kernel
theorem dX3_setCurve_23 : decode cX3_setCurve 23 = .ok (.sipush 5000, 3) := by decide +kernel
theorem dX3_setCurve_26 : decode cX3_setCurve 26 = .ok (.invokestatic 69, 3) := by decide +kernel
theorem dX3_setCurve_29 : decode cX3_setCurve 29 = .ok (.ifCond .ne 9, 3) := by decide +kernel
theorem dX3_setCurve_32 : decode cX3_setCurve 32 = .ok (.aload_n 0, 1) := by decide +kernel
theorem dX3_setCurve_33 : decode cX3_setCurve 33 = .ok (.iconst 2, 1) := by decide +kernel
theorem dX3_setCurve_34 : decode cX3_setCurve 34 = .ok (.invokevirtual 76, 3) := by decide +kernel
theorem dX3_setCurve_37 : decode cX3_setCurve 37 = .ok (.ireturn, 1) := by decide +kernel
theorem dX3_setCurve_38 : decode cX3_setCurve 38 = .ok (.aload_n 0, 1) := by decide +kernel
theorem dX3_setCurve_39 : decode cX3_setCurve 39 = .ok (.getfield 7, 3) := by decide +kernel
theorem dX3_setCurve_42 : decode cX3_setCurve 42 = .ok (.iload_n 1, 1) := by decide +kernel
theorem dX3_setCurve_43 : decode cX3_setCurve 43 = .ok (.iaload, 1) := by decide +kernel
theorem dX3_setCurve_44 : decode cX3_setCurve 44 = .ok (.istore_n 3, 1) := by decide +kernel
theorem dX3_setCurve_45 : decode cX3_setCurve 45 = .ok (.aload_n 0, 1) := by decide +kernel
theorem dX3_setCurve_46 : decode cX3_setCurve 46 = .ok (.getfield 7, 3) := by decide +kernel
theorem dX3_setCurve_49 : decode cX3_setCurve 49 = .ok (.iload_n 1, 1) := by decide +kernel
theorem dX3_setCurve_50 : decode cX3_setCurve 50 = .ok (.iload_n 2, 1) := by decide +kernel
theorem dX3_setCurve_51 : decode cX3_setCurve 51 = .ok (.iastore, 1) := by decide +kernel
theorem dX3_setCurve_52 : decode cX3_setCurve 52 = .ok (.iload_n 3, 1) := by decide +kernel
theorem dX3_setCurve_53 : decode cX3_setCurve 53 = .ok (.ireturn, 1) := by decide +kernel
set_option maxRecDepth 20000 in
theorem ggX3_setRates_X3_in : GoodIn wsX3_setRates wsX3_in := goodIn_r _ [8] (by decide +kernel) (by decide +kernel)
set_option maxRecDepth 20000 in
theorem gX3_setRates_X3_in : GoodIn wsX3_setRates (va_wsS RX3 69 yX3_in wsX3_in) := goodIn_app (goodIn_of _ (by decide +kernel)) ggX3_setRates_X3_in
theorem dX3_setRates_0 : decode cX3_setRates 0 = .ok (.aload_n 0, 1) := by decide +kernel
theorem dX3_setRates_1 : decode cX3_setRates 1 = .ok (.iload_n 1, 1) := by decide +kernel
theorem dX3_setRates_2 : decode cX3_setRates 2 = .ok (.iconst 0, 1) := by decide +kernel
theorem dX3_setRates_3 : decode cX3_setRates 3 = .ok (.sipush 5000, 3) := by decide +kernel
theorem dX3_setRates_6 : decode cX3_setRates 6 = .ok (.invokestatic 69, 3) := by decide +kernel
theorem dX3_setRates_9 : decode cX3_setRates 9 = .ok (.ifCond .eq 28, 3) := by decide +kernel
theorem dX3_setRates_12 : decode cX3_setRates 12 = .ok (.iload_n 2, 1) := by decide +kernel
theorem dX3_setRates_13 : decode cX3_setRates 13 = .ok (.iconst 0, 1) := by decide +kernel
theorem dX3_setRates_14 : decode cX3_setRates 14 = .ok (.sipush 5000, 3) := by decide +kernel
theorem dX3_setRates_17 : decode cX3_setRates 17 = .ok (.invokestatic 69, 3) := by decide +kernel
theorem dX3_setRates_20 : decode cX3_setRates 20 = .ok (.ifCond .eq 17, 3) := by decide +kernel
theorem dX3_setRates_23 : decode cX3_setRates 23 = .ok (.iload_n 3, 1) := by decide +kernel
theorem dX3_setRates_24 : decode cX3_setRates 24 = .ok (.iconst 0, 1) := by decide +kernel
theorem dX3_setRates_25 : decode cX3_setRates 25 = .ok (.bipush 100, 2) := by decide +kernel
theorem dX3_setRates_27 : decode cX3_setRates 27 = .ok (.invokestatic 69, 3) := by decide +kernel
theorem dX3_setRates_30 : decode cX3_setRates 30 = .ok (.ifCond .eq 7, 3) := by decide +kernel
theorem dX3_setRates_33 : decode cX3_setRates 33 = .ok (.iconst 0, 1) := by decide +kernel
theorem dX3_setRates_34 : decode cX3_setRates 34 = .ok (.goto 4, 3) := by decide +kernel
theorem dX3_setRates_37 : decode cX3_setRates 37 = .ok (.iconst 1, 1) := by decide +kernel
theorem dX3_setRates_38 : decode cX3_setRates 38 = .ok (.putfield 63, 3) := by decide +kernel
theorem dX3_setRates_41 : decode cX3_setRates 41 = .ok (.aload_n 0, 1) := by decide +kernel
theorem dX3_setRates_42 : decode cX3_setRates 42 = .ok (.getfield 63, 3) := by decide +kernel
theorem dX3_setRates_45 : decode cX3_setRates 45 = .ok (.ifCond .ne 18, 3) := by decide +kernel
theorem dX3_setRates_48 : decode cX3_setRates 48 = .ok (.aload_n 0, 1) := by decide +kernel
theorem dX3_setRates_49 : decode cX3_setRates 49 = .ok (.iload_n 1, 1) := by decide +kernel
theorem dX3_setRates_50 : decode cX3_setRates 50 = .ok (.putfield 80, 3) := by decide +kernel
theorem dX3_setRates_53 : decode cX3_setRates 53 = .ok (.aload_n 0, 1) := by decide +kernel
theorem dX3_setRates_54 : decode cX3_setRates 54 = .ok (.iload_n 2, 1) := by decide +kernel
theorem dX3_setRates_55 : decode cX3_setRates 55 = .ok (.putfield 83, 3) := by decide +kernel
theorem dX3_setRates_58 : decode cX3_setRates 58 = .ok (.aload_n 0, 1) := by decide +kernel
theorem dX3_setRates_59 : decode cX3_setRates 59 = .ok (.iload_n 3, 1) := by decide +kernel
theorem dX3_setRates_60 : decode cX3_setRates 60 = .ok (.putfield 13, 3) := by decide +kernel
theorem dX3_setRates_63 : decode cX3_setRates 63 = .ok (.return_, 1) := by decide +kernel
theorem dX3_leftOf_0 : decode cX3_leftOf 0 = .ok (.iconst 0, 1) := by decide +kernel
theorem dX3_leftOf_1 : decode cX3_leftOf 1 = .ok (.istore_n 2, 1) := by decide +kernel
theorem dX3_leftOf_2 : decode cX3_leftOf 2 = .ok (.iconst 0, 1) := by decide +kernel
theorem dX3_leftOf_3 : decode cX3_leftOf 3 = .ok (.istore_n 3, 1) := by decide +kernel
theorem dX3_leftOf_4 : decode cX3_leftOf 4 = .ok (.iload_n 3, 1) := by decide +kernel
theorem dX3_leftOf_5 : decode cX3_leftOf 5 = .ok (.bipush 6, 2) := by decide +kernel
theorem dX3_leftOf_7 : decode cX3_leftOf 7 = .ok (.if_icmp .ge 23, 3) := by decide +kernel
theorem dX3_leftOf_10 : decode cX3_leftOf 10 = .ok (.iload_n 2, 1) := by decide +kernel
theorem dX3_leftOf_11 : decode cX3_leftOf 11 = .ok (.aload_n 0, 1) := by decide +kernel
theorem dX3_leftOf_12 : decode cX3_leftOf 12 = .ok (.getfield 36, 3) := by decide +kernel
theorem dX3_leftOf_15 : decode cX3_leftOf 15 = .ok (.bipush 6, 2) := by decide +kernel
theorem dX3_leftOf_17 : decode cX3_leftOf 17 = .ok (.iload_n 1, 1) := by decide +kernel
theorem dX3_leftOf_18 : decode cX3_leftOf 18 = .ok (.imul, 1) := by decide +kernel
theorem dX3_leftOf_19 : decode cX3_leftOf 19 = .ok (.iload_n 3, 1) := by decide +kernel
theorem dX3_leftOf_20 : decode cX3_leftOf 20 = .ok (.iadd, 1) := by decide +kernel
theorem dX3_leftOf_21 : decode cX3_leftOf 21 = .ok (.iaload, 1) := by decide +kernel
theorem dX3_leftOf_22 : decode cX3_leftOf 22 = .ok (.iadd, 1) := by decide +kernel
theorem dX3_leftOf_23 : decode cX3_leftOf 23 = .ok (.istore_n 2, 1) := by decide +kernel
theorem dX3_leftOf_24 : decode cX3_leftOf 24 = .ok (.iinc 3 1, 3) := by decide +kernel
theorem dX3_leftOf_27 : decode cX3_leftOf 27 = .ok (.goto (-23), 3) := by decide +kernel
theorem dX3_leftOf_30 : decode cX3_leftOf 30 = .ok (.iload_n 2, 1) := by decide +kernel
theorem dX3_leftOf_31 : decode cX3_leftOf 31 = .ok (.ireturn, 1) := by decide +kernel
set_option maxRecDepth 20000 in
theorem ggX3_bear_X3_leftOf : GoodIn wsX3_bear wsX3_leftOf := goodIn_r _ [11, 1, 12, 13, 14, 15, 16, 17, 18, 19, 20, 21, 22, 23, 24, 25, 26, 27, 28, 29, 30, 31, 32, 33] (by decide +kernel) (by decide +kernel)
set_option maxRecDepth 20000 in
theorem gX3_bear_X3_leftOf : GoodIn wsX3_bear (wsV RX3 86 RX3 yX3_leftOf wsX3_leftOf) := goodIn_app (goodIn_of _ (by decide +kernel)) ggX3_bear_X3_leftOf
theorem dX3_bear_0 : decode cX3_bear 0 = .ok (.aload_n 0, 1) := by decide +kernel
theorem dX3_bear_1 : decode cX3_bear 1 = .ok (.iload_n 1, 1) := by decide +kernel
theorem dX3_bear_2 : decode cX3_bear 2 = .ok (.invokevirtual 86, 3) := by decide +kernel
theorem dX3_bear_5 : decode cX3_bear 5 = .ok (.i2l, 1) := by decide +kernel
theorem dX3_bear_6 : decode cX3_bear 6 = .ok (.lstore_n 3, 1) := by decide +kernel
theorem dX3_bear_7 : decode cX3_bear 7 = .ok (.lconst 0, 1) := by decide +kernel
theorem dX3_bear_8 : decode cX3_bear 8 = .ok (.lstore 5, 2) := by decide +kernel
theorem dX3_bear_10 : decode cX3_bear 10 = .ok (.iconst 0, 1) := by decide +kernel
theorem dX3_bear_11 : decode cX3_bear 11 = .ok (.istore 7, 2) := by decide +kernel
theorem dX3_bear_13 : decode cX3_bear 13 = .ok (.iload 7, 2) := by decide +kernel
theorem dX3_bear_15 : decode cX3_bear 15 = .ok (.bipush 6, 2) := by decide +kernel
theorem dX3_bear_17 : decode cX3_bear 17 = .ok (.if_icmp .ge 41, 3) := by decide +kernel
theorem dX3_bear_20 : decode cX3_bear 20 = .ok (.lload 5, 2) := by decide +kernel
theorem dX3_bear_22 : decode cX3_bear 22 = .ok (.aload_n 0, 1) := by decide +kernel
theorem dX3_bear_23 : decode cX3_bear 23 = .ok (.getfield 36, 3) := by decide +kernel
theorem dX3_bear_26 : decode cX3_bear 26 = .ok (.bipush 6, 2) := by decide +kernel
theorem dX3_bear_28 : decode cX3_bear 28 = .ok (.iload_n 1, 1) := by decide +kernel
theorem dX3_bear_29 : decode cX3_bear 29 = .ok (.imul, 1) := by decide +kernel
theorem dX3_bear_30 : decode cX3_bear 30 = .ok (.iload 7, 2) := by decide +kernel
theorem dX3_bear_32 : decode cX3_bear 32 = .ok (.iadd, 1) := by decide +kernel
theorem dX3_bear_33 : decode cX3_bear 33 = .ok (.iaload, 1) := by decide +kernel
theorem dX3_bear_34 : decode cX3_bear 34 = .ok (.i2l, 1) := by decide +kernel
theorem dX3_bear_35 : decode cX3_bear 35 = .ok (.aload_n 0, 1) := by decide +kernel
theorem dX3_bear_36 : decode cX3_bear 36 = .ok (.getfield 39, 3) := by decide +kernel
theorem dX3_bear_39 : decode cX3_bear 39 = .ok (.bipush 6, 2) := by decide +kernel
theorem dX3_bear_41 : decode cX3_bear 41 = .ok (.iload_n 1, 1) := by decide +kernel
theorem dX3_bear_42 : decode cX3_bear 42 = .ok (.imul, 1) := by decide +kernel
theorem dX3_bear_43 : decode cX3_bear 43 = .ok (.iload 7, 2) := by decide +kernel
theorem dX3_bear_45 : decode cX3_bear 45 = .ok (.iadd, 1) := by decide +kernel
theorem dX3_bear_46 : decode cX3_bear 46 = .ok (.iaload, 1) := by decide +kernel
theorem dX3_bear_47 : decode cX3_bear 47 = .ok (.i2l, 1) := by decide +kernel
theorem dX3_bear_48 : decode cX3_bear 48 = .ok (.lmul, 1) := by decide +kernel
theorem dX3_bear_49 : decode cX3_bear 49 = .ok (.ladd, 1) := by decide +kernel
theorem dX3_bear_50 : decode cX3_bear 50 = .ok (.lstore 5, 2) := by decide +kernel
theorem dX3_bear_52 : decode cX3_bear 52 = .ok (.iinc 7 1, 3) := by decide +kernel
theorem dX3_bear_55 : decode cX3_bear 55 = .ok (.goto (-42), 3) := by decide +kernel
theorem dX3_bear_58 : decode cX3_bear 58 = .ok (.lload_n 3, 1) := by decide +kernel
theorem dX3_bear_59 : decode cX3_bear 59 = .ok (.aload_n 0, 1) := by decide +kernel
theorem dX3_bear_60 : decode cX3_bear 60 = .ok (.getfield 23, 3) := by decide +kernel
theorem dX3_bear_63 : decode cX3_bear 63 = .ok (.iload_n 1, 1) := by decide +kernel
theorem dX3_bear_64 : decode cX3_bear 64 = .ok (.iaload, 1) := by decide +kernel
theorem dX3_bear_65 : decode cX3_bear 65 = .ok (.i2l, 1) := by decide +kernel
theorem dX3_bear_66 : decode cX3_bear 66 = .ok (.lmul, 1) := by decide +kernel
theorem dX3_bear_67 : decode cX3_bear 67 = .ok (.ldc2_w 89, 3) := by decide +kernel
theorem dX3_bear_70 : decode cX3_bear 70 = .ok (.ldiv, 1) := by decide +kernel
theorem dX3_bear_71 : decode cX3_bear 71 = .ok (.l2i, 1) := by decide +kernel
theorem dX3_bear_72 : decode cX3_bear 72 = .ok (.istore 7, 2) := by decide +kernel
theorem dX3_bear_74 : decode cX3_bear 74 = .ok (.lload 5, 2) := by decide +kernel
theorem dX3_bear_76 : decode cX3_bear 76 = .ok (.ldc2_w 89, 3) := by decide +kernel
theorem dX3_bear_79 : decode cX3_bear 79 = .ok (.ldiv, 1) := by decide +kernel
theorem dX3_bear_80 : decode cX3_bear 80 = .ok (.l2i, 1) := by decide +kernel
theorem dX3_bear_81 : decode cX3_bear 81 = .ok (.istore 8, 2) := by decide +kernel
theorem dX3_bear_83 : decode cX3_bear 83 = .ok (.aload_n 0, 1) := by decide +kernel
theorem dX3_bear_84 : decode cX3_bear 84 = .ok (.getfield 29, 3) := by decide +kernel
theorem dX3_bear_87 : decode cX3_bear 87 = .ok (.iload_n 1, 1) := by decide +kernel
theorem dX3_bear_88 : decode cX3_bear 88 = .ok (.baload, 1) := by decide +kernel
theorem dX3_bear_89 : decode cX3_bear 89 = .ok (.ifCond .eq 20, 3) := by decide +kernel
theorem dX3_bear_92 : decode cX3_bear 92 = .ok (.lload_n 3, 1) := by decide +kernel
theorem dX3_bear_93 : decode cX3_bear 93 = .ok (.aload_n 0, 1) := by decide +kernel
theorem dX3_bear_94 : decode cX3_bear 94 = .ok (.getfield 26, 3) := by decide +kernel
theorem dX3_bear_97 : decode cX3_bear 97 = .ok (.iload_n 1, 1) := by decide +kernel
theorem dX3_bear_98 : decode cX3_bear 98 = .ok (.iaload, 1) := by decide +kernel
theorem dX3_bear_99 : decode cX3_bear 99 = .ok (.i2l, 1) := by decide +kernel
theorem dX3_bear_100 : decode cX3_bear 100 = .ok (.lmul, 1) := by decide +kernel
theorem dX3_bear_101 : decode cX3_bear 101 = .ok (.ldc2_w 89, 3) := by decide +kernel
theorem dX3_bear_104 : decode cX3_bear 104 = .ok (.ldiv, 1) := by decide +kernel
theorem dX3_bear_105 : decode cX3_bear 105 = .ok (.l2i, 1) := by decide +kernel
theorem dX3_bear_106 : decode cX3_bear 106 = .ok (.goto 4, 3) := by decide +kernel
theorem dX3_bear_109 : decode cX3_bear 109 = .ok (.iconst 0, 1) := by decide +kernel
theorem dX3_bear_110 : decode cX3_bear 110 = .ok (.istore 9, 2) := by decide +kernel
theorem dX3_bear_112 : decode cX3_bear 112 = .ok (.iload_n 2, 1) := by decide +kernel
theorem dX3_bear_113 : decode cX3_bear 113 = .ok (.ifCond .ne 8, 3) := by decide +kernel
theorem dX3_bear_116 : decode cX3_bear 116 = .ok (.iload 7, 2) := by decide +kernel
theorem dX3_bear_118 : decode cX3_bear 118 = .ok (.goto 31, 3) := by decide +kernel
theorem dX3_bear_121 : decode cX3_bear 121 = .ok (.iload_n 2, 1) := by decide +kernel
theorem dX3_bear_122 : decode cX3_bear 122 = .ok (.iconst 1, 1) := by decide +kernel
theorem dX3_bear_123 : decode cX3_bear 123 = .ok (.if_icmp .ne 8, 3) := by decide +kernel
theorem dX3_bear_126 : decode cX3_bear 126 = .ok (.iload 8, 2) := by decide +kernel
theorem dX3_bear_128 : decode cX3_bear 128 = .ok (.goto 21, 3) := by decide +kernel
theorem dX3_bear_131 : decode cX3_bear 131 = .ok (.iload_n 2, 1) := by decide +kernel
theorem dX3_bear_132 : decode cX3_bear 132 = .ok (.iconst 2, 1) := by decide +kernel
theorem dX3_bear_133 : decode cX3_bear 133 = .ok (.if_icmp .ne 8, 3) := by decide +kernel
theorem dX3_bear_136 : decode cX3_bear 136 = .ok (.iload 9, 2) := by decide +kernel
theorem dX3_bear_138 : decode cX3_bear 138 = .ok (.goto 11, 3) := by decide +kernel
theorem dX3_bear_141 : decode cX3_bear 141 = .ok (.iload 7, 2) := by decide +kernel
theorem dX3_bear_143 : decode cX3_bear 143 = .ok (.iload 8, 2) := by decide +kernel
theorem dX3_bear_145 : decode cX3_bear 145 = .ok (.isub, 1) := by decide +kernel
theorem dX3_bear_146 : decode cX3_bear 146 = .ok (.iload 9, 2) := by decide +kernel
theorem dX3_bear_148 : decode cX3_bear 148 = .ok (.isub, 1) := by decide +kernel
theorem dX3_bear_149 : decode cX3_bear 149 = .ok (.ireturn, 1) := by decide +kernel
set_option maxRecDepth 20000 in
theorem ggX3_lend_X3_isBranch : GoodIn wsX3_lend wsX3_isBranch := goodIn_r _ [18, 19, 20, 17, 21] (by decide +kernel) (by decide +kernel)
set_option maxRecDepth 20000 in
theorem gX3_lend_X3_isBranch : GoodIn wsX3_lend (va_wsS RX3 91 yX3_isBranch wsX3_isBranch) := goodIn_app (goodIn_of _ (by decide +kernel)) ggX3_lend_X3_isBranch
set_option maxRecDepth 20000 in
theorem ggX3_lend_X3_in : GoodIn wsX3_lend wsX3_in := goodIn_r _ [21] (by decide +kernel) (by decide +kernel)
set_option maxRecDepth 20000 in
theorem gX3_lend_X3_in : GoodIn wsX3_lend (va_wsS RX3 69 yX3_in wsX3_in) := goodIn_app (goodIn_of _ (by decide +kernel)) ggX3_lend_X3_in
set_option maxRecDepth 20000 in
theorem ggX3_lend_X3_fails : GoodIn wsX3_lend wsX3_fails := goodIn_r _ [25, 1, 26, 27, 28, 29, 30, 31, 32, 33, 34, 35, 36, 37, 38, 39, 40, 41, 42, 43, 44, 45, 46, 47] (by decide +kernel) (by decide +kernel)
set_option maxRecDepth 20000 in
theorem gX3_lend_X3_fails : GoodIn wsX3_lend (wsV RX3 76 RX3 yX3_fails wsX3_fails) := goodIn_app (goodIn_of _ (by decide +kernel)) ggX3_lend_X3_fails
theorem dX3_lend_0 : decode cX3_lend 0 = .ok (.aload_n 0, 1) := by decide +kernel
theorem dX3_lend_1 : decode cX3_lend 1 = .ok (.iconst 0, 1) := by decide +kernel
theorem dX3_lend_2 : decode cX3_lend 2 = .ok (.putfield 63, 3) := by decide +kernel
theorem dX3_lend_5 : decode cX3_lend 5 = .ok (.iload_n 1, 1) := by decide +kernel
theorem dX3_lend_6 : decode cX3_lend 6 = .ok (.invokestatic 91, 3) := by decide +kernel
theorem dX3_lend_9 : decode cX3_lend 9 = .ok (.ifCond .eq 12, 3) := by decide +kernel
theorem dX3_lend_12 : decode cX3_lend 12 = .ok (.iload_n 2, 1) := by decide +kernel
theorem dX3_lend_13 : decode cX3_lend 13 = .ok (.iconst 0, 1) := by decide +kernel
theorem dX3_lend_14 : decode cX3_lend 14 = .ok (.iconst 2, 1) := by decide +kernel
theorem dX3_lend_15 : decode cX3_lend 15 = .ok (.invokestatic 69, 3) := by decide +kernel
theorem dX3_lend_18 : decode cX3_lend 18 = .ok (.ifCond .ne 9, 3) := by decide +kernel
theorem dX3_lend_21 : decode cX3_lend 21 = .ok (.aload_n 0, 1) := by decide +kernel
theorem dX3_lend_22 : decode cX3_lend 22 = .ok (.iconst 1, 1) := by decide +kernel
theorem dX3_lend_23 : decode cX3_lend 23 = .ok (.invokevirtual 76, 3) := by decide +kernel
theorem dX3_lend_26 : decode cX3_lend 26 = .ok (.ireturn, 1) := by decide +kernel
theorem dX3_lend_27 : decode cX3_lend 27 = .ok (.iload_n 3, 1) := by decide +kernel
theorem dX3_lend_28 : decode cX3_lend 28 = .ok (.iconst 1, 1) := by decide +kernel
theorem dX3_lend_29 : decode cX3_lend 29 = .ok (.ldc 95, 2) := by decide +kernel
theorem dX3_lend_31 : decode cX3_lend 31 = .ok (.invokestatic 69, 3) := by decide +kernel
theorem dX3_lend_34 : decode cX3_lend 34 = .ok (.ifCond .eq 26, 3) := by decide +kernel
theorem dX3_lend_37 : decode cX3_lend 37 = .ok (.iload 4, 2) := by decide +kernel
theorem dX3_lend_39 : decode cX3_lend 39 = .ok (.iconst 0, 1) := by decide +kernel
theorem dX3_lend_40 : decode cX3_lend 40 = .ok (.sipush 5000, 3) := by decide +kernel
theorem dX3_lend_43 : decode cX3_lend 43 = .ok (.invokestatic 69, 3) := by decide +kernel
theorem dX3_lend_46 : decode cX3_lend 46 = .ok (.ifCond .eq 14, 3) := by decide +kernel
theorem dX3_lend_49 : decode cX3_lend 49 = .ok (.iload 5, 2) := by decide +kernel
theorem dX3_lend_51 : decode cX3_lend 51 = .ok (.iconst 1, 1) := by decide +kernel
theorem dX3_lend_52 : decode cX3_lend 52 = .ok (.bipush 6, 2) := by decide +kernel
theorem dX3_lend_54 : decode cX3_lend 54 = .ok (.invokestatic 69, 3) := by decide +kernel
theorem dX3_lend_57 : decode cX3_lend 57 = .ok (.ifCond .ne 9, 3) := by decide +kernel
theorem dX3_lend_60 : decode cX3_lend 60 = .ok (.aload_n 0, 1) := by decide +kernel
theorem dX3_lend_61 : decode cX3_lend 61 = .ok (.iconst 2, 1) := by decide +kernel
theorem dX3_lend_62 : decode cX3_lend 62 = .ok (.invokevirtual 76, 3) := by decide +kernel
theorem dX3_lend_65 : decode cX3_lend 65 = .ok (.ireturn, 1) := by decide +kernel
theorem dX3_lend_66 : decode cX3_lend 66 = .ok (.aload_n 0, 1) := by decide +kernel
theorem dX3_lend_67 : decode cX3_lend 67 = .ok (.getfield 66, 3) := by decide +kernel
theorem dX3_lend_70 : decode cX3_lend 70 = .ok (.bipush 24, 2) := by decide +kernel
theorem dX3_lend_72 : decode cX3_lend 72 = .ok (.if_icmp .ne 9, 3) := by decide +kernel
theorem dX3_lend_75 : decode cX3_lend 75 = .ok (.aload_n 0, 1) := by decide +kernel
theorem dX3_lend_76 : decode cX3_lend 76 = .ok (.iconst 3, 1) := by decide +kernel
theorem dX3_lend_77 : decode cX3_lend 77 = .ok (.invokevirtual 76, 3) := by decide +kernel
theorem dX3_lend_80 : decode cX3_lend 80 = .ok (.ireturn, 1) := by decide +kernel
theorem dX3_lend_81 : decode cX3_lend 81 = .ok (.aload_n 0, 1) := by decide +kernel
theorem dX3_lend_82 : decode cX3_lend 82 = .ok (.getfield 17, 3) := by decide +kernel
theorem dX3_lend_85 : decode cX3_lend 85 = .ok (.aload_n 0, 1) := by decide +kernel
theorem dX3_lend_86 : decode cX3_lend 86 = .ok (.getfield 66, 3) := by decide +kernel
theorem dX3_lend_89 : decode cX3_lend 89 = .ok (.iload_n 1, 1) := by decide +kernel
theorem dX3_lend_90 : decode cX3_lend 90 = .ok (.iastore, 1) := by decide +kernel
theorem dX3_lend_91 : decode cX3_lend 91 = .ok (.aload_n 0, 1) := by decide +kernel
theorem dX3_lend_92 : decode cX3_lend 92 = .ok (.getfield 20, 3) := by decide +kernel
theorem dX3_lend_95 : decode cX3_lend 95 = .ok (.aload_n 0, 1) := by decide +kernel
theorem dX3_lend_96 : decode cX3_lend 96 = .ok (.getfield 66, 3) := by decide +kernel
theorem dX3_lend_99 : decode cX3_lend 99 = .ok (.iload_n 2, 1) := by decide +kernel
theorem dX3_lend_100 : decode cX3_lend 100 = .ok (.iastore, 1) := by decide +kernel
theorem dX3_lend_101 : decode cX3_lend 101 = .ok (.aload_n 0, 1) := by decide +kernel
theorem dX3_lend_102 : decode cX3_lend 102 = .ok (.getfield 23, 3) := by decide +kernel
theorem dX3_lend_105 : decode cX3_lend 105 = .ok (.aload_n 0, 1) := by decide +kernel
theorem dX3_lend_106 : decode cX3_lend 106 = .ok (.getfield 66, 3) := by decide +kernel
theorem dX3_lend_109 : decode cX3_lend 109 = .ok (.iload 4, 2) := by decide +kernel
theorem dX3_lend_111 : decode cX3_lend 111 = .ok (.iastore, 1) := by decide +kernel
theorem dX3_lend_112 : decode cX3_lend 112 = .ok (.aload_n 0, 1) := by decide +kernel
theorem dX3_lend_113 : decode cX3_lend 113 = .ok (.getfield 26, 3) := by decide +kernel
theorem dX3_lend_116 : decode cX3_lend 116 = .ok (.aload_n 0, 1) := by decide +kernel
theorem dX3_lend_117 : decode cX3_lend 117 = .ok (.getfield 66, 3) := by decide +kernel
theorem dX3_lend_120 : decode cX3_lend 120 = .ok (.aload_n 0, 1) := by decide +kernel
theorem dX3_lend_121 : decode cX3_lend 121 = .ok (.getfield 83, 3) := by decide +kernel
theorem dX3_lend_124 : decode cX3_lend 124 = .ok (.iastore, 1) := by decide +kernel
theorem dX3_lend_125 : decode cX3_lend 125 = .ok (.aload_n 0, 1) := by decide +kernel
theorem dX3_lend_126 : decode cX3_lend 126 = .ok (.getfield 29, 3) := by decide +kernel
theorem dX3_lend_129 : decode cX3_lend 129 = .ok (.aload_n 0, 1) := by decide +kernel
theorem dX3_lend_130 : decode cX3_lend 130 = .ok (.getfield 66, 3) := by decide +kernel
theorem dX3_lend_133 : decode cX3_lend 133 = .ok (.iload 6, 2) := by decide +kernel
theorem dX3_lend_135 : decode cX3_lend 135 = .ok (.bastore, 1) := by decide +kernel
theorem dX3_lend_136 : decode cX3_lend 136 = .ok (.aload_n 0, 1) := by decide +kernel
theorem dX3_lend_137 : decode cX3_lend 137 = .ok (.getfield 33, 3) := by decide +kernel
theorem dX3_lend_140 : decode cX3_lend 140 = .ok (.aload_n 0, 1) := by decide +kernel
theorem dX3_lend_141 : decode cX3_lend 141 = .ok (.getfield 66, 3) := by decide +kernel
theorem dX3_lend_144 : decode cX3_lend 144 = .ok (.aload_n 0, 1) := by decide +kernel
theorem dX3_lend_145 : decode cX3_lend 145 = .ok (.getfield 73, 3) := by decide +kernel
theorem dX3_lend_148 : decode cX3_lend 148 = .ok (.iastore, 1) := by decide +kernel
theorem dX3_lend_149 : decode cX3_lend 149 = .ok (.iconst 0, 1) := by decide +kernel
theorem dX3_lend_150 : decode cX3_lend 150 = .ok (.istore 7, 2) := by decide +kernel
theorem dX3_lend_152 : decode cX3_lend 152 = .ok (.iload 7, 2) := by decide +kernel
theorem dX3_lend_154 : decode cX3_lend 154 = .ok (.iload 5, 2) := by decide +kernel
theorem dX3_lend_156 : decode cX3_lend 156 = .ok (.if_icmp .ge 75, 3) := by decide +kernel
theorem dX3_lend_159 : decode cX3_lend 159 = .ok (.aload_n 0, 1) := by decide +kernel
theorem dX3_lend_160 : decode cX3_lend 160 = .ok (.getfield 36, 3) := by decide +kernel
theorem dX3_lend_163 : decode cX3_lend 163 = .ok (.bipush 6, 2) := by decide +kernel
theorem dX3_lend_165 : decode cX3_lend 165 = .ok (.aload_n 0, 1) := by decide +kernel
theorem dX3_lend_166 : decode cX3_lend 166 = .ok (.getfield 66, 3) := by decide +kernel
theorem dX3_lend_169 : decode cX3_lend 169 = .ok (.imul, 1) := by decide +kernel
theorem dX3_lend_170 : decode cX3_lend 170 = .ok (.iload 7, 2) := by decide +kernel
theorem dX3_lend_172 : decode cX3_lend 172 = .ok (.iadd, 1) := by decide +kernel
theorem dX3_lend_173 : decode cX3_lend 173 = .ok (.iload 7, 2) := by decide +kernel
theorem dX3_lend_175 : decode cX3_lend 175 = .ok (.iload 5, 2) := by decide +kernel
theorem dX3_lend_177 : decode cX3_lend 177 = .ok (.iconst 1, 1) := by decide +kernel
theorem dX3_lend_178 : decode cX3_lend 178 = .ok (.isub, 1) := by decide +kernel
theorem dX3_lend_179 : decode cX3_lend 179 = .ok (.if_icmp .ge 10, 3) := by decide +kernel
theorem dX3_lend_182 : decode cX3_lend 182 = .ok (.iload_n 3, 1) := by decide +kernel
theorem dX3_lend_183 : decode cX3_lend 183 = .ok (.iload 5, 2) := by decide +kernel
theorem dX3_lend_185 : decode cX3_lend 185 = .ok (.idiv, 1) := by decide +kernel
theorem dX3_lend_186 : decode cX3_lend 186 = .ok (.goto 14, 3) := by decide +kernel
theorem dX3_lend_189 : decode cX3_lend 189 = .ok (.iload_n 3, 1) := by decide +kernel
theorem dX3_lend_190 : decode cX3_lend 190 = .ok (.iload_n 3, 1) := by decide +kernel
theorem dX3_lend_191 : decode cX3_lend 191 = .ok (.iload 5, 2) := by decide +kernel
theorem dX3_lend_193 : decode cX3_lend 193 = .ok (.idiv, 1) := by decide +kernel
theorem dX3_lend_194 : decode cX3_lend 194 = .ok (.iload 5, 2) := by decide +kernel
theorem dX3_lend_196 : decode cX3_lend 196 = .ok (.iconst 1, 1) := by decide +kernel
theorem dX3_lend_197 : decode cX3_lend 197 = .ok (.isub, 1) := by decide +kernel
theorem dX3_lend_198 : decode cX3_lend 198 = .ok (.imul, 1) := by decide +kernel
theorem dX3_lend_199 : decode cX3_lend 199 = .ok (.isub, 1) := by decide +kernel
theorem dX3_lend_200 : decode cX3_lend 200 = .ok (.iastore, 1) := by decide +kernel
theorem dX3_lend_201 : decode cX3_lend 201 = .ok (.aload_n 0, 1) := by decide +kernel
theorem dX3_lend_202 : decode cX3_lend 202 = .ok (.getfield 39, 3) := by decide +kernel
theorem dX3_lend_205 : decode cX3_lend 205 = .ok (.bipush 6, 2) := by decide +kernel
theorem dX3_lend_207 : decode cX3_lend 207 = .ok (.aload_n 0, 1) := by decide +kernel
theorem dX3_lend_208 : decode cX3_lend 208 = .ok (.getfield 66, 3) := by decide +kernel
theorem dX3_lend_211 : decode cX3_lend 211 = .ok (.imul, 1) := by decide +kernel
theorem dX3_lend_212 : decode cX3_lend 212 = .ok (.iload 7, 2) := by decide +kernel
theorem dX3_lend_214 : decode cX3_lend 214 = .ok (.iadd, 1) := by decide +kernel
theorem dX3_lend_215 : decode cX3_lend 215 = .ok (.aload_n 0, 1) := by decide +kernel
theorem dX3_lend_216 : decode cX3_lend 216 = .ok (.getfield 7, 3) := by decide +kernel
theorem dX3_lend_219 : decode cX3_lend 219 = .ok (.iload 7, 2) := by decide +kernel
theorem dX3_lend_221 : decode cX3_lend 221 = .ok (.iconst 1, 1) := by decide +kernel
theorem dX3_lend_222 : decode cX3_lend 222 = .ok (.iadd, 1) := by decide +kernel
theorem dX3_lend_223 : decode cX3_lend 223 = .ok (.iaload, 1) := by decide +kernel
theorem dX3_lend_224 : decode cX3_lend 224 = .ok (.iastore, 1) := by decide +kernel
theorem dX3_lend_225 : decode cX3_lend 225 = .ok (.iinc 7 1, 3) := by decide +kernel
theorem dX3_lend_228 : decode cX3_lend 228 = .ok (.goto (-76), 3) := by decide +kernel
theorem dX3_lend_231 : decode cX3_lend 231 = .ok (.aload_n 0, 1) := by decide +kernel
theorem dX3_lend_232 : decode cX3_lend 232 = .ok (.dup, 1) := by decide +kernel
theorem dX3_lend_233 : decode cX3_lend 233 = .ok (.getfield 66, 3) := by decide +kernel
theorem dX3_lend_236 : decode cX3_lend 236 = .ok (.iconst 1, 1) := by decide +kernel
theorem dX3_lend_237 : decode cX3_lend 237 = .ok (.iadd, 1) := by decide +kernel
theorem dX3_lend_238 : decode cX3_lend 238 = .ok (.putfield 66, 3) := by decide +kernel
theorem dX3_lend_241 : decode cX3_lend 241 = .ok (.aload_n 0, 1) := by decide +kernel
theorem dX3_lend_242 : decode cX3_lend 242 = .ok (.getfield 66, 3) := by decide +kernel
theorem dX3_lend_245 : decode cX3_lend 245 = .ok (.iconst 1, 1) := by decide +kernel
theorem dX3_lend_246 : decode cX3_lend 246 = .ok (.isub, 1) := by decide +kernel
theorem dX3_lend_247 : decode cX3_lend 247 = .ok (.ireturn, 1) := by decide +kernel
set_option maxRecDepth 20000 in
theorem ggX3_repay_X3_isLoan : GoodIn wsX3_repay wsX3_isLoan := goodIn_r _ [8, 9, 10, 11, 7, 12, 21, 22, 23, 24, 25, 26, 27, 28, 29, 30, 31, 32, 33, 34, 35, 36, 37, 38, 39, 40, 41, 42] (by decide +kernel) (by decide +kernel)
set_option maxRecDepth 20000 in
theorem gX3_repay_X3_isLoan : GoodIn wsX3_repay (wsV RX3 96 RX3 yX3_isLoan wsX3_isLoan) := goodIn_app (goodIn_of _ (by decide +kernel)) ggX3_repay_X3_isLoan
set_option maxRecDepth 20000 in
theorem ggX3_repay_X3_fails : GoodIn wsX3_repay wsX3_fails := goodIn_r _ [16, 1, 21, 22, 23, 24, 25, 26, 27, 28, 29, 30, 31, 32, 33, 34, 35, 36, 37, 38, 39, 40, 41, 42] (by decide +kernel) (by decide +kernel)
set_option maxRecDepth 20000 in
theorem gX3_repay_X3_fails : GoodIn wsX3_repay (wsV RX3 76 RX3 yX3_fails wsX3_fails) := goodIn_app (goodIn_of _ (by decide +kernel)) ggX3_repay_X3_fails
set_option maxRecDepth 20000 in
theorem ggX3_repay_X3_leftOf : GoodIn wsX3_repay wsX3_leftOf := goodIn_r _ [20, 3, 21, 22, 23, 24, 25, 26, 27, 28, 29, 30, 31, 32, 33, 34, 35, 36, 37, 38, 39, 40, 41, 42] (by decide +kernel) (by decide +kernel)
set_option maxRecDepth 20000 in
theorem gX3_repay_X3_leftOf : GoodIn wsX3_repay (wsV RX3 86 RX3 yX3_leftOf wsX3_leftOf) := goodIn_app (goodIn_of _ (by decide +kernel)) ggX3_repay_X3_leftOf
theorem dX3_repay_0 : decode cX3_repay 0 = .ok (.aload_n 0, 1) := by decide +kernel
theorem dX3_repay_1 : decode cX3_repay 1 = .ok (.iconst 0, 1) := by decide +kernel
theorem dX3_repay_2 : decode cX3_repay 2 = .ok (.putfield 63, 3) := by decide +kernel
theorem dX3_repay_5 : decode cX3_repay 5 = .ok (.aload_n 0, 1) := by decide +kernel
theorem dX3_repay_6 : decode cX3_repay 6 = .ok (.iload_n 1, 1) := by decide +kernel
theorem dX3_repay_7 : decode cX3_repay 7 = .ok (.invokevirtual 96, 3) := by decide +kernel
theorem dX3_repay_10 : decode cX3_repay 10 = .ok (.ifCond .ne 9, 3) := by decide +kernel
theorem dX3_repay_13 : decode cX3_repay 13 = .ok (.aload_n 0, 1) := by decide +kernel
theorem dX3_repay_14 : decode cX3_repay 14 = .ok (.iconst 1, 1) := by decide +kernel
theorem dX3_repay_15 : decode cX3_repay 15 = .ok (.invokevirtual 76, 3) := by decide +kernel
theorem dX3_repay_18 : decode cX3_repay 18 = .ok (.ireturn, 1) := by decide +kernel
theorem dX3_repay_19 : decode cX3_repay 19 = .ok (.aload_n 0, 1) := by decide +kernel
theorem dX3_repay_20 : decode cX3_repay 20 = .ok (.iload_n 1, 1) := by decide +kernel
theorem dX3_repay_21 : decode cX3_repay 21 = .ok (.invokevirtual 86, 3) := by decide +kernel
theorem dX3_repay_24 : decode cX3_repay 24 = .ok (.istore_n 2, 1) := by decide +kernel
theorem dX3_repay_25 : decode cX3_repay 25 = .ok (.aload_n 0, 1) := by decide +kernel
theorem dX3_repay_26 : decode cX3_repay 26 = .ok (.getfield 29, 3) := by decide +kernel
theorem dX3_repay_29 : decode cX3_repay 29 = .ok (.iload_n 1, 1) := by decide +kernel
theorem dX3_repay_30 : decode cX3_repay 30 = .ok (.baload, 1) := by decide +kernel
theorem dX3_repay_31 : decode cX3_repay 31 = .ok (.ifCond .eq 7, 3) := by decide +kernel
theorem dX3_repay_34 : decode cX3_repay 34 = .ok (.iload_n 2, 1) := by decide +kernel
theorem dX3_repay_35 : decode cX3_repay 35 = .ok (.ifCond .ne 9, 3) := by decide +kernel
theorem dX3_repay_38 : decode cX3_repay 38 = .ok (.aload_n 0, 1) := by decide +kernel
theorem dX3_repay_39 : decode cX3_repay 39 = .ok (.iconst 2, 1) := by decide +kernel
theorem dX3_repay_40 : decode cX3_repay 40 = .ok (.invokevirtual 76, 3) := by decide +kernel
theorem dX3_repay_43 : decode cX3_repay 43 = .ok (.ireturn, 1) := by decide +kernel
theorem dX3_repay_44 : decode cX3_repay 44 = .ok (.iconst 0, 1) := by decide +kernel
theorem dX3_repay_45 : decode cX3_repay 45 = .ok (.istore_n 3, 1) := by decide +kernel
theorem dX3_repay_46 : decode cX3_repay 46 = .ok (.iload_n 3, 1) := by decide +kernel
theorem dX3_repay_47 : decode cX3_repay 47 = .ok (.bipush 6, 2) := by decide +kernel
theorem dX3_repay_49 : decode cX3_repay 49 = .ok (.if_icmp .ge 21, 3) := by decide +kernel
theorem dX3_repay_52 : decode cX3_repay 52 = .ok (.aload_n 0, 1) := by decide +kernel
theorem dX3_repay_53 : decode cX3_repay 53 = .ok (.getfield 36, 3) := by decide +kernel
theorem dX3_repay_56 : decode cX3_repay 56 = .ok (.bipush 6, 2) := by decide +kernel
theorem dX3_repay_58 : decode cX3_repay 58 = .ok (.iload_n 1, 1) := by decide +kernel
theorem dX3_repay_59 : decode cX3_repay 59 = .ok (.imul, 1) := by decide +kernel
theorem dX3_repay_60 : decode cX3_repay 60 = .ok (.iload_n 3, 1) := by decide +kernel
theorem dX3_repay_61 : decode cX3_repay 61 = .ok (.iadd, 1) := by decide +kernel
theorem dX3_repay_62 : decode cX3_repay 62 = .ok (.iconst 0, 1) := by decide +kernel
theorem dX3_repay_63 : decode cX3_repay 63 = .ok (.iastore, 1) := by decide +kernel
theorem dX3_repay_64 : decode cX3_repay 64 = .ok (.iinc 3 1, 3) := by decide +kernel
theorem dX3_repay_67 : decode cX3_repay 67 = .ok (.goto (-21), 3) := by decide +kernel
theorem dX3_repay_70 : decode cX3_repay 70 = .ok (.iload_n 2, 1) := by decide +kernel
theorem dX3_repay_71 : decode cX3_repay 71 = .ok (.ireturn, 1) := by decide +kernel
theorem dX3_core_0 : decode cX3_core 0 = .ok (.lconst 0, 1) := by decide +kernel
theorem dX3_core_1 : decode cX3_core 1 = .ok (.lstore_n 1, 1) := by decide +kernel
theorem dX3_core_2 : decode cX3_core 2 = .ok (.iconst 0, 1) := by decide +kernel
theorem dX3_core_3 : decode cX3_core 3 = .ok (.istore_n 3, 1) := by decide +kernel
theorem dX3_core_4 : decode cX3_core 4 = .ok (.iload_n 3, 1) := by decide +kernel
theorem dX3_core_5 : decode cX3_core 5 = .ok (.iconst 3, 1) := by decide +kernel
theorem dX3_core_6 : decode cX3_core 6 = .ok (.if_icmp .ge 19, 3) := by decide +kernel
theorem dX3_core_9 : decode cX3_core 9 = .ok (.lload_n 1, 1) := by decide +kernel
theorem dX3_core_10 : decode cX3_core 10 = .ok (.aload_n 0, 1) := by decide +kernel
theorem dX3_core_11 : decode cX3_core 11 = .ok (.getfield 42, 3) := by decide +kernel
theorem dX3_core_14 : decode cX3_core 14 = .ok (.iload_n 3, 1) := by decide +kernel
theorem dX3_core_15 : decode cX3_core 15 = .ok (.iaload, 1) := by decide +kernel
theorem dX3_core_16 : decode cX3_core 16 = .ok (.i2l, 1) := by decide +kernel
theorem dX3_core_17 : decode cX3_core 17 = .ok (.ladd, 1) := by decide +kernel
theorem dX3_core_18 : decode cX3_core 18 = .ok (.lstore_n 1, 1) := by decide +kernel
theorem dX3_core_19 : decode cX3_core 19 = .ok (.iinc 3 1, 3) := by decide +kernel
theorem dX3_core_22 : decode cX3_core 22 = .ok (.goto (-18), 3) := by decide +kernel
theorem dX3_core_25 : decode cX3_core 25 = .ok (.lload_n 1, 1) := by decide +kernel
theorem dX3_core_26 : decode cX3_core 26 = .ok (.aload_n 0, 1) := by decide +kernel
theorem dX3_core_27 : decode cX3_core 27 = .ok (.getfield 13, 3) := by decide +kernel
theorem dX3_core_30 : decode cX3_core 30 = .ok (.i2l, 1) := by decide +kernel
theorem dX3_core_31 : decode cX3_core 31 = .ok (.lmul, 1) := by decide +kernel
theorem dX3_core_32 : decode cX3_core 32 = .ok (.ldc2_w 99, 3) := by decide +kernel
theorem dX3_core_35 : decode cX3_core 35 = .ok (.ldiv, 1) := by decide +kernel
theorem dX3_core_36 : decode cX3_core 36 = .ok (.l2i, 1) := by decide +kernel
theorem dX3_core_37 : decode cX3_core 37 = .ok (.ireturn, 1) := by decide +kernel
set_option maxRecDepth 20000 in
theorem ggX3_lays_X3_core : GoodIn wsX3_lays wsX3_core := goodIn_r _ [8, 9, 10, 11, 12, 13, 14, 15, 16, 17, 18, 19, 20, 21, 22, 23, 24, 25, 26, 27, 28, 29, 30, 31, 32, 33] (by decide +kernel) (by decide +kernel)
set_option maxRecDepth 20000 in
theorem gX3_lays_X3_core : GoodIn wsX3_lays (wsV RX3 101 RX3 yX3_core wsX3_core) := goodIn_app (goodIn_of _ (by decide +kernel)) ggX3_lays_X3_core
theorem dX3_lays_0 : decode cX3_lays 0 = .ok (.aload_n 0, 1) := by decide +kernel
theorem dX3_lays_1 : decode cX3_lays 1 = .ok (.getfield 45, 3) := by decide +kernel
theorem dX3_lays_4 : decode cX3_lays 4 = .ok (.iload_n 1, 1) := by decide +kernel
theorem dX3_lays_5 : decode cX3_lays 5 = .ok (.aload_n 0, 1) := by decide +kernel
theorem dX3_lays_6 : decode cX3_lays 6 = .ok (.invokevirtual 101, 3) := by decide +kernel
theorem dX3_lays_9 : decode cX3_lays 9 = .ok (.bipush 6, 2) := by decide +kernel
theorem dX3_lays_11 : decode cX3_lays 11 = .ok (.idiv, 1) := by decide +kernel
theorem dX3_lays_12 : decode cX3_lays 12 = .ok (.iastore, 1) := by decide +kernel
theorem dX3_lays_13 : decode cX3_lays 13 = .ok (.aload_n 0, 1) := by decide +kernel
theorem dX3_lays_14 : decode cX3_lays 14 = .ok (.getfield 48, 3) := by decide +kernel
theorem dX3_lays_17 : decode cX3_lays 17 = .ok (.iload_n 1, 1) := by decide +kernel
theorem dX3_lays_18 : decode cX3_lays 18 = .ok (.aload_n 0, 1) := by decide +kernel
theorem dX3_lays_19 : decode cX3_lays 19 = .ok (.getfield 7, 3) := by decide +kernel
theorem dX3_lays_22 : decode cX3_lays 22 = .ok (.bipush 6, 2) := by decide +kernel
theorem dX3_lays_24 : decode cX3_lays 24 = .ok (.iaload, 1) := by decide +kernel
theorem dX3_lays_25 : decode cX3_lays 25 = .ok (.iastore, 1) := by decide +kernel
theorem dX3_lays_26 : decode cX3_lays 26 = .ok (.return_, 1) := by decide +kernel
theorem dX3_replica_0 : decode cX3_replica 0 = .ok (.lconst 0, 1) := by decide +kernel
theorem dX3_replica_1 : decode cX3_replica 1 = .ok (.lstore_n 1, 1) := by decide +kernel
theorem dX3_replica_2 : decode cX3_replica 2 = .ok (.lconst 0, 1) := by decide +kernel
theorem dX3_replica_3 : decode cX3_replica 3 = .ok (.lstore_n 3, 1) := by decide +kernel
theorem dX3_replica_4 : decode cX3_replica 4 = .ok (.iconst 0, 1) := by decide +kernel
theorem dX3_replica_5 : decode cX3_replica 5 = .ok (.istore 5, 2) := by decide +kernel
theorem dX3_replica_7 : decode cX3_replica 7 = .ok (.iload 5, 2) := by decide +kernel
theorem dX3_replica_9 : decode cX3_replica 9 = .ok (.bipush 6, 2) := by decide +kernel
theorem dX3_replica_11 : decode cX3_replica 11 = .ok (.if_icmp .ge 40, 3) := by decide +kernel
theorem dX3_replica_14 : decode cX3_replica 14 = .ok (.lload_n 1, 1) := by decide +kernel
theorem dX3_replica_15 : decode cX3_replica 15 = .ok (.aload_n 0, 1) := by decide +kernel
theorem dX3_replica_16 : decode cX3_replica 16 = .ok (.getfield 45, 3) := by decide +kernel
theorem dX3_replica_19 : decode cX3_replica 19 = .ok (.iload 5, 2) := by decide +kernel
theorem dX3_replica_21 : decode cX3_replica 21 = .ok (.iaload, 1) := by decide +kernel
theorem dX3_replica_22 : decode cX3_replica 22 = .ok (.i2l, 1) := by decide +kernel
theorem dX3_replica_23 : decode cX3_replica 23 = .ok (.aload_n 0, 1) := by decide +kernel
theorem dX3_replica_24 : decode cX3_replica 24 = .ok (.getfield 48, 3) := by decide +kernel
theorem dX3_replica_27 : decode cX3_replica 27 = .ok (.iload 5, 2) := by decide +kernel
theorem dX3_replica_29 : decode cX3_replica 29 = .ok (.iaload, 1) := by decide +kernel
theorem dX3_replica_30 : decode cX3_replica 30 = .ok (.i2l, 1) := by decide +kernel
theorem dX3_replica_31 : decode cX3_replica 31 = .ok (.lmul, 1) := by decide +kernel
theorem dX3_replica_32 : decode cX3_replica 32 = .ok (.ladd, 1) := by decide +kernel
theorem dX3_replica_33 : decode cX3_replica 33 = .ok (.lstore_n 1, 1) := by decide +kernel
theorem dX3_replica_34 : decode cX3_replica 34 = .ok (.lload_n 3, 1) := by decide +kernel
theorem dX3_replica_35 : decode cX3_replica 35 = .ok (.aload_n 0, 1) := by decide +kernel
theorem dX3_replica_36 : decode cX3_replica 36 = .ok (.getfield 45, 3) := by decide +kernel
theorem dX3_replica_39 : decode cX3_replica 39 = .ok (.iload 5, 2) := by decide +kernel
theorem dX3_replica_41 : decode cX3_replica 41 = .ok (.iaload, 1) := by decide +kernel
theorem dX3_replica_42 : decode cX3_replica 42 = .ok (.i2l, 1) := by decide +kernel
theorem dX3_replica_43 : decode cX3_replica 43 = .ok (.ladd, 1) := by decide +kernel
theorem dX3_replica_44 : decode cX3_replica 44 = .ok (.lstore_n 3, 1) := by decide +kernel
theorem dX3_replica_45 : decode cX3_replica 45 = .ok (.iinc 5 1, 3) := by decide +kernel
theorem dX3_replica_48 : decode cX3_replica 48 = .ok (.goto (-41), 3) := by decide +kernel
theorem dX3_replica_51 : decode cX3_replica 51 = .ok (.lload_n 3, 1) := by decide +kernel
theorem dX3_replica_52 : decode cX3_replica 52 = .ok (.lconst 0, 1) := by decide +kernel
theorem dX3_replica_53 : decode cX3_replica 53 = .ok (.lcmp, 1) := by decide +kernel
theorem dX3_replica_54 : decode cX3_replica 54 = .ok (.ifCond .ne 7, 3) := by decide +kernel
theorem dX3_replica_57 : decode cX3_replica 57 = .ok (.iconst 0, 1) := by decide +kernel
theorem dX3_replica_58 : decode cX3_replica 58 = .ok (.goto 7, 3) := by decide +kernel
theorem dX3_replica_61 : decode cX3_replica 61 = .ok (.lload_n 1, 1) := by decide +kernel
theorem dX3_replica_62 : decode cX3_replica 62 = .ok (.lload_n 3, 1) := by decide +kernel
theorem dX3_replica_63 : decode cX3_replica 63 = .ok (.ldiv, 1) := by decide +kernel
theorem dX3_replica_64 : decode cX3_replica 64 = .ok (.l2i, 1) := by decide +kernel
theorem dX3_replica_65 : decode cX3_replica 65 = .ok (.ireturn, 1) := by decide +kernel
set_option maxRecDepth 20000 in
theorem ggX3_deposit_X3_isBranch : GoodIn wsX3_deposit wsX3_isBranch := goodIn_r _ [9, 10, 11, 8, 12] (by decide +kernel) (by decide +kernel)
set_option maxRecDepth 20000 in
theorem gX3_deposit_X3_isBranch : GoodIn wsX3_deposit (va_wsS RX3 91 yX3_isBranch wsX3_isBranch) := goodIn_app (goodIn_of _ (by decide +kernel)) ggX3_deposit_X3_isBranch
set_option maxRecDepth 20000 in
theorem ggX3_deposit_X3_fails : GoodIn wsX3_deposit wsX3_fails := goodIn_r _ [16, 1, 30, 31, 32, 33, 34, 35, 36, 37, 38, 39, 40, 41, 42, 43, 44, 45, 46, 47, 48, 49, 50, 51] (by decide +kernel) (by decide +kernel)
set_option maxRecDepth 20000 in
theorem gX3_deposit_X3_fails : GoodIn wsX3_deposit (wsV RX3 76 RX3 yX3_fails wsX3_fails) := goodIn_app (goodIn_of _ (by decide +kernel)) ggX3_deposit_X3_fails
set_option maxRecDepth 20000 in
theorem ggX3_deposit_X3_in : GoodIn wsX3_deposit wsX3_in := goodIn_r _ [12] (by decide +kernel) (by decide +kernel)
set_option maxRecDepth 20000 in
theorem gX3_deposit_X3_in : GoodIn wsX3_deposit (va_wsS RX3 69 yX3_in wsX3_in) := goodIn_app (goodIn_of _ (by decide +kernel)) ggX3_deposit_X3_in
set_option maxRecDepth 20000 in
theorem ggX3_deposit_X3_lays : GoodIn wsX3_deposit wsX3_lays := goodIn_r _ [20, 21, 22, 23, 24, 25, 26, 8, 27, 4, 28, 29, 30, 31, 32, 33, 34, 35, 36, 37, 38, 39, 40, 41, 42, 43, 44, 45, 46, 47, 48, 49, 50, 51] (by decide +kernel) (by decide +kernel)
set_option maxRecDepth 20000 in
theorem gX3_deposit_X3_lays : GoodIn wsX3_deposit (wsV RX3 106 RX3 yX3_lays wsX3_lays) := goodIn_app (goodIn_of _ (by decide +kernel)) ggX3_deposit_X3_lays
theorem dX3_deposit_0 : decode cX3_deposit 0 = .ok (.aload_n 0, 1) := by decide +kernel
theorem dX3_deposit_1 : decode cX3_deposit 1 = .ok (.iconst 0, 1) := by decide +kernel
theorem dX3_deposit_2 : decode cX3_deposit 2 = .ok (.putfield 63, 3) := by decide +kernel
theorem dX3_deposit_5 : decode cX3_deposit 5 = .ok (.iload_n 1, 1) := by decide +kernel
theorem dX3_deposit_6 : decode cX3_deposit 6 = .ok (.invokestatic 91, 3) := by decide +kernel
theorem dX3_deposit_9 : decode cX3_deposit 9 = .ok (.ifCond .ne 9, 3) := by decide +kernel
theorem dX3_deposit_12 : decode cX3_deposit 12 = .ok (.aload_n 0, 1) := by decide +kernel
theorem dX3_deposit_13 : decode cX3_deposit 13 = .ok (.iconst 1, 1) := by decide +kernel
theorem dX3_deposit_14 : decode cX3_deposit 14 = .ok (.invokevirtual 76, 3) := by decide +kernel
theorem dX3_deposit_17 : decode cX3_deposit 17 = .ok (.ireturn, 1) := by decide +kernel
theorem dX3_deposit_18 : decode cX3_deposit 18 = .ok (.iload_n 2, 1) := by decide +kernel
theorem dX3_deposit_19 : decode cX3_deposit 19 = .ok (.ldc 105, 2) := by decide +kernel
theorem dX3_deposit_21 : decode cX3_deposit 21 = .ok (.ldc 95, 2) := by decide +kernel
theorem dX3_deposit_23 : decode cX3_deposit 23 = .ok (.invokestatic 69, 3) := by decide +kernel
theorem dX3_deposit_26 : decode cX3_deposit 26 = .ok (.ifCond .ne 9, 3) := by decide +kernel
theorem dX3_deposit_29 : decode cX3_deposit 29 = .ok (.aload_n 0, 1) := by decide +kernel
theorem dX3_deposit_30 : decode cX3_deposit 30 = .ok (.iconst 2, 1) := by decide +kernel
theorem dX3_deposit_31 : decode cX3_deposit 31 = .ok (.invokevirtual 76, 3) := by decide +kernel
theorem dX3_deposit_34 : decode cX3_deposit 34 = .ok (.ireturn, 1) := by decide +kernel
theorem dX3_deposit_35 : decode cX3_deposit 35 = .ok (.aload_n 0, 1) := by decide +kernel
theorem dX3_deposit_36 : decode cX3_deposit 36 = .ok (.getfield 42, 3) := by decide +kernel
theorem dX3_deposit_39 : decode cX3_deposit 39 = .ok (.iload_n 1, 1) := by decide +kernel
theorem dX3_deposit_40 : decode cX3_deposit 40 = .ok (.iaload, 1) := by decide +kernel
theorem dX3_deposit_41 : decode cX3_deposit 41 = .ok (.iload_n 2, 1) := by decide +kernel
theorem dX3_deposit_42 : decode cX3_deposit 42 = .ok (.iadd, 1) := by decide +kernel
theorem dX3_deposit_43 : decode cX3_deposit 43 = .ok (.iconst 0, 1) := by decide +kernel
theorem dX3_deposit_44 : decode cX3_deposit 44 = .ok (.ldc 95, 2) := by decide +kernel
theorem dX3_deposit_46 : decode cX3_deposit 46 = .ok (.invokestatic 69, 3) := by decide +kernel
theorem dX3_deposit_49 : decode cX3_deposit 49 = .ok (.ifCond .ne 9, 3) := by decide +kernel
theorem dX3_deposit_52 : decode cX3_deposit 52 = .ok (.aload_n 0, 1) := by decide +kernel
theorem dX3_deposit_53 : decode cX3_deposit 53 = .ok (.iconst 3, 1) := by decide +kernel
theorem dX3_deposit_54 : decode cX3_deposit 54 = .ok (.invokevirtual 76, 3) := by decide +kernel
theorem dX3_deposit_57 : decode cX3_deposit 57 = .ok (.ireturn, 1) := by decide +kernel
theorem dX3_deposit_58 : decode cX3_deposit 58 = .ok (.aload_n 0, 1) := by decide +kernel
theorem dX3_deposit_59 : decode cX3_deposit 59 = .ok (.getfield 42, 3) := by decide +kernel
theorem dX3_deposit_62 : decode cX3_deposit 62 = .ok (.iload_n 1, 1) := by decide +kernel
theorem dX3_deposit_63 : decode cX3_deposit 63 = .ok (.dup2, 1) := by decide +kernel
theorem dX3_deposit_64 : decode cX3_deposit 64 = .ok (.iaload, 1) := by decide +kernel
theorem dX3_deposit_65 : decode cX3_deposit 65 = .ok (.iload_n 2, 1) := by decide +kernel
theorem dX3_deposit_66 : decode cX3_deposit 66 = .ok (.iadd, 1) := by decide +kernel
theorem dX3_deposit_67 : decode cX3_deposit 67 = .ok (.iastore, 1) := by decide +kernel
theorem dX3_deposit_68 : decode cX3_deposit 68 = .ok (.iconst 0, 1) := by decide +kernel
theorem dX3_deposit_69 : decode cX3_deposit 69 = .ok (.istore_n 3, 1) := by decide +kernel
theorem dX3_deposit_70 : decode cX3_deposit 70 = .ok (.iload_n 3, 1) := by decide +kernel
theorem dX3_deposit_71 : decode cX3_deposit 71 = .ok (.bipush 6, 2) := by decide +kernel
theorem dX3_deposit_73 : decode cX3_deposit 73 = .ok (.if_icmp .ge 25, 3) := by decide +kernel
theorem dX3_deposit_76 : decode cX3_deposit 76 = .ok (.aload_n 0, 1) := by decide +kernel
theorem dX3_deposit_77 : decode cX3_deposit 77 = .ok (.getfield 73, 3) := by decide +kernel
theorem dX3_deposit_80 : decode cX3_deposit 80 = .ok (.ifCond .ne 18, 3) := by decide +kernel
theorem dX3_deposit_83 : decode cX3_deposit 83 = .ok (.iload_n 2, 1) := by decide +kernel
theorem dX3_deposit_84 : decode cX3_deposit 84 = .ok (.ifCond .eq 14, 3) := by decide +kernel
theorem dX3_deposit_87 : decode cX3_deposit 87 = .ok (.aload_n 0, 1) := by decide +kernel
theorem dX3_deposit_88 : decode cX3_deposit 88 = .ok (.iload_n 3, 1) := by decide +kernel
theorem dX3_deposit_89 : decode cX3_deposit 89 = .ok (.invokevirtual 106, 3) := by decide +kernel
theorem dX3_deposit_92 : decode cX3_deposit 92 = .ok (.iinc 3 1, 3) := by decide +kernel
theorem dX3_deposit_95 : decode cX3_deposit 95 = .ok (.goto (-25), 3) := by decide +kernel
theorem dX3_deposit_98 : decode cX3_deposit 98 = .ok (.aload_n 0, 1) := by decide +kernel
theorem dX3_deposit_99 : decode cX3_deposit 99 = .ok (.getfield 42, 3) := by decide +kernel
theorem dX3_deposit_102 : decode cX3_deposit 102 = .ok (.iload_n 1, 1) := by decide +kernel
theorem dX3_deposit_103 : decode cX3_deposit 103 = .ok (.iaload, 1) := by decide +kernel
theorem dX3_deposit_104 : decode cX3_deposit 104 = .ok (.ireturn, 1) := by decide +kernel
set_option maxRecDepth 20000 in
theorem ggX3_isPaid_X3_replica : GoodIn wsX3_isPaid wsX3_replica := goodIn_r _ [10, 11, 12, 13, 14, 15, 16, 17, 18, 19, 20, 21, 22, 23, 24, 25, 26, 27, 28, 29, 30, 31, 32, 33, 34] (by decide +kernel) (by decide +kernel)
set_option maxRecDepth 20000 in
theorem gX3_isPaid_X3_replica : GoodIn wsX3_isPaid (wsV RX3 110 RX3 yX3_replica wsX3_replica) := goodIn_app (goodIn_of _ (by decide +kernel)) ggX3_isPaid_X3_replica
theorem dX3_isPaid_0 : decode cX3_isPaid 0 = .ok (.aload_n 0, 1) := by decide +kernel
theorem dX3_isPaid_1 : decode cX3_isPaid 1 = .ok (.getfield 42, 3) := by decide +kernel
theorem dX3_isPaid_4 : decode cX3_isPaid 4 = .ok (.iload_n 1, 1) := by decide +kernel
theorem dX3_isPaid_5 : decode cX3_isPaid 5 = .ok (.iaload, 1) := by decide +kernel
theorem dX3_isPaid_6 : decode cX3_isPaid 6 = .ok (.i2l, 1) := by decide +kernel
theorem dX3_isPaid_7 : decode cX3_isPaid 7 = .ok (.aload_n 0, 1) := by decide +kernel
theorem dX3_isPaid_8 : decode cX3_isPaid 8 = .ok (.getfield 13, 3) := by decide +kernel
theorem dX3_isPaid_11 : decode cX3_isPaid 11 = .ok (.i2l, 1) := by decide +kernel
theorem dX3_isPaid_12 : decode cX3_isPaid 12 = .ok (.lmul, 1) := by decide +kernel
theorem dX3_isPaid_13 : decode cX3_isPaid 13 = .ok (.ldc2_w 99, 3) := by decide +kernel
theorem dX3_isPaid_16 : decode cX3_isPaid 16 = .ok (.ldiv, 1) := by decide +kernel
theorem dX3_isPaid_17 : decode cX3_isPaid 17 = .ok (.lstore_n 2, 1) := by decide +kernel
theorem dX3_isPaid_18 : decode cX3_isPaid 18 = .ok (.lload_n 2, 1) := by decide +kernel
theorem dX3_isPaid_19 : decode cX3_isPaid 19 = .ok (.aload_n 0, 1) := by decide +kernel
theorem dX3_isPaid_20 : decode cX3_isPaid 20 = .ok (.invokevirtual 110, 3) := by decide +kernel
theorem dX3_isPaid_23 : decode cX3_isPaid 23 = .ok (.i2l, 1) := by decide +kernel
theorem dX3_isPaid_24 : decode cX3_isPaid 24 = .ok (.lmul, 1) := by decide +kernel
theorem dX3_isPaid_25 : decode cX3_isPaid 25 = .ok (.aload_n 0, 1) := by decide +kernel
theorem dX3_isPaid_26 : decode cX3_isPaid 26 = .ok (.getfield 42, 3) := by decide +kernel
theorem dX3_isPaid_29 : decode cX3_isPaid 29 = .ok (.iload_n 1, 1) := by decide +kernel
theorem dX3_isPaid_30 : decode cX3_isPaid 30 = .ok (.iaload, 1) := by decide +kernel
theorem dX3_isPaid_31 : decode cX3_isPaid 31 = .ok (.i2l, 1) := by decide +kernel
theorem dX3_isPaid_32 : decode cX3_isPaid 32 = .ok (.lload_n 2, 1) := by decide +kernel
theorem dX3_isPaid_33 : decode cX3_isPaid 33 = .ok (.lsub, 1) := by decide +kernel
theorem dX3_isPaid_34 : decode cX3_isPaid 34 = .ok (.aload_n 0, 1) := by decide +kernel
theorem dX3_isPaid_35 : decode cX3_isPaid 35 = .ok (.getfield 7, 3) := by decide +kernel
theorem dX3_isPaid_38 : decode cX3_isPaid 38 = .ok (.iconst 1, 1) := by decide +kernel
theorem dX3_isPaid_39 : decode cX3_isPaid 39 = .ok (.iaload, 1) := by decide +kernel
theorem dX3_isPaid_40 : decode cX3_isPaid 40 = .ok (.i2l, 1) := by decide +kernel
theorem dX3_isPaid_41 : decode cX3_isPaid 41 = .ok (.lmul, 1) := by decide +kernel
theorem dX3_isPaid_42 : decode cX3_isPaid 42 = .ok (.ladd, 1) := by decide +kernel
theorem dX3_isPaid_43 : decode cX3_isPaid 43 = .ok (.ldc2_w 89, 3) := by decide +kernel
theorem dX3_isPaid_46 : decode cX3_isPaid 46 = .ok (.ldiv, 1) := by decide +kernel
theorem dX3_isPaid_47 : decode cX3_isPaid 47 = .ok (.l2i, 1) := by decide +kernel
theorem dX3_isPaid_48 : decode cX3_isPaid 48 = .ok (.ireturn, 1) := by decide +kernel
theorem dX3_pays_0 : decode cX3_pays 0 = .ok (.aload_n 0, 1) := by decide +kernel
theorem dX3_pays_1 : decode cX3_pays 1 = .ok (.getfield 42, 3) := by decide +kernel
theorem dX3_pays_4 : decode cX3_pays 4 = .ok (.iload_n 1, 1) := by decide +kernel
theorem dX3_pays_5 : decode cX3_pays 5 = .ok (.iaload, 1) := by decide +kernel
theorem dX3_pays_6 : decode cX3_pays 6 = .ok (.i2l, 1) := by decide +kernel
theorem dX3_pays_7 : decode cX3_pays 7 = .ok (.aload_n 0, 1) := by decide +kernel
theorem dX3_pays_8 : decode cX3_pays 8 = .ok (.getfield 80, 3) := by decide +kernel
theorem dX3_pays_11 : decode cX3_pays 11 = .ok (.i2l, 1) := by decide +kernel
theorem dX3_pays_12 : decode cX3_pays 12 = .ok (.lmul, 1) := by decide +kernel
theorem dX3_pays_13 : decode cX3_pays 13 = .ok (.ldc2_w 89, 3) := by decide +kernel
theorem dX3_pays_16 : decode cX3_pays 16 = .ok (.ldiv, 1) := by decide +kernel
theorem dX3_pays_17 : decode cX3_pays 17 = .ok (.l2i, 1) := by decide +kernel
theorem dX3_pays_18 : decode cX3_pays 18 = .ok (.ireturn, 1) := by decide +kernel
set_option maxRecDepth 20000 in
theorem ggX3_closeMonth_X3_fails : GoodIn wsX3_closeMonth wsX3_fails := goodIn_r _ [16, 1, 57, 58, 59, 60, 61, 62, 63, 64, 65, 66, 67, 68, 69, 70, 71, 72, 73, 74, 75, 76, 77, 78] (by decide +kernel) (by decide +kernel)
set_option maxRecDepth 20000 in
theorem gX3_closeMonth_X3_fails : GoodIn wsX3_closeMonth (wsV RX3 76 RX3 yX3_fails wsX3_fails) := goodIn_app (goodIn_of _ (by decide +kernel)) ggX3_closeMonth_X3_fails
set_option maxRecDepth 20000 in
theorem ggX3_closeMonth_X3_bear : GoodIn wsX3_closeMonth wsX3_bear := goodIn_r _ [20, 11, 21, 22, 23, 24, 25, 26, 27, 28, 15, 29, 57, 58, 59, 60, 61, 62, 63, 64, 65, 66, 67, 68, 69, 70, 71, 72, 73, 74, 75, 76, 77, 78] (by decide +kernel) (by decide +kernel)
set_option maxRecDepth 20000 in
theorem gX3_closeMonth_X3_bear : GoodIn wsX3_closeMonth (wsV RX3 113 RX3 yX3_bear wsX3_bear) := goodIn_app (goodIn_of _ (by decide +kernel)) ggX3_closeMonth_X3_bear
set_option maxRecDepth 20000 in
theorem ggX3_closeMonth_X3_isPaid : GoodIn wsX3_closeMonth wsX3_isPaid := goodIn_r _ [33, 34, 35, 36, 37, 23, 38, 39, 40, 15, 41, 42, 43, 57, 58, 59, 60, 61, 62, 63, 64, 65, 66, 67, 68, 69, 70, 71, 72, 73, 74, 75, 76, 77, 78] (by decide +kernel) (by decide +kernel)
set_option maxRecDepth 20000 in
theorem gX3_closeMonth_X3_isPaid : GoodIn wsX3_closeMonth (wsV RX3 117 RX3 yX3_isPaid wsX3_isPaid) := goodIn_app (goodIn_of _ (by decide +kernel)) ggX3_closeMonth_X3_isPaid
set_option maxRecDepth 20000 in
theorem ggX3_closeMonth_X3_pays : GoodIn wsX3_closeMonth wsX3_pays := goodIn_r _ [47, 34, 48, 23, 57, 58, 59, 60, 61, 62, 63, 64, 65, 66, 67, 68, 69, 70, 71, 72, 73, 74, 75, 76, 77, 78] (by decide +kernel) (by decide +kernel)
set_option maxRecDepth 20000 in
theorem gX3_closeMonth_X3_pays : GoodIn wsX3_closeMonth (wsV RX3 120 RX3 yX3_pays wsX3_pays) := goodIn_app (goodIn_of _ (by decide +kernel)) ggX3_closeMonth_X3_pays
set_option maxRecDepth 20000 in
theorem ggX3_closeMonth_X3_lays : GoodIn wsX3_closeMonth wsX3_lays := goodIn_r _ [52, 42, 43, 37, 53, 54, 55, 15, 56, 34, 35, 36, 57, 58, 59, 60, 61, 62, 63, 64, 65, 66, 67, 68, 69, 70, 71, 72, 73, 74, 75, 76, 77, 78] (by decide +kernel) (by decide +kernel)
set_option maxRecDepth 20000 in
theorem gX3_closeMonth_X3_lays : GoodIn wsX3_closeMonth (wsV RX3 106 RX3 yX3_lays wsX3_lays) := goodIn_app (goodIn_of _ (by decide +kernel)) ggX3_closeMonth_X3_lays
theorem dX3_closeMonth_0 : decode cX3_closeMonth 0 = .ok (.aload_n 0, 1) := by decide +kernel
theorem dX3_closeMonth_1 : decode cX3_closeMonth 1 = .ok (.iconst 0, 1) := by decide +kernel
theorem dX3_closeMonth_2 : decode cX3_closeMonth 2 = .ok (.putfield 63, 3) := by decide +kernel
theorem dX3_closeMonth_5 : decode cX3_closeMonth 5 = .ok (.aload_n 0, 1) := by decide +kernel
theorem dX3_closeMonth_6 : decode cX3_closeMonth 6 = .ok (.getfield 73, 3) := by decide +kernel
theorem dX3_closeMonth_9 : decode cX3_closeMonth 9 = .ok (.bipush 47, 2) := by decide +kernel
theorem dX3_closeMonth_11 : decode cX3_closeMonth 11 = .ok (.if_icmp .ne 9, 3) := by decide +kernel
theorem dX3_closeMonth_14 : decode cX3_closeMonth 14 = .ok (.aload_n 0, 1) := by decide +kernel
theorem dX3_closeMonth_15 : decode cX3_closeMonth 15 = .ok (.iconst 1, 1) := by decide +kernel
theorem dX3_closeMonth_16 : decode cX3_closeMonth 16 = .ok (.invokevirtual 76, 3) := by decide +kernel
theorem dX3_closeMonth_19 : decode cX3_closeMonth 19 = .ok (.ireturn, 1) := by decide +kernel
theorem dX3_closeMonth_20 : decode cX3_closeMonth 20 = .ok (.iconst 0, 1) := by decide +kernel
theorem dX3_closeMonth_21 : decode cX3_closeMonth 21 = .ok (.istore_n 1, 1) := by decide +kernel
theorem dX3_closeMonth_22 : decode cX3_closeMonth 22 = .ok (.iconst 0, 1) := by decide +kernel
theorem dX3_closeMonth_23 : decode cX3_closeMonth 23 = .ok (.istore_n 2, 1) := by decide +kernel
theorem dX3_closeMonth_24 : decode cX3_closeMonth 24 = .ok (.iconst 0, 1) := by decide +kernel
theorem dX3_closeMonth_25 : decode cX3_closeMonth 25 = .ok (.istore_n 3, 1) := by decide +kernel
theorem dX3_closeMonth_26 : decode cX3_closeMonth 26 = .ok (.iload_n 3, 1) := by decide +kernel
theorem dX3_closeMonth_27 : decode cX3_closeMonth 27 = .ok (.aload_n 0, 1) := by decide +kernel
theorem dX3_closeMonth_28 : decode cX3_closeMonth 28 = .ok (.getfield 66, 3) := by decide +kernel
theorem dX3_closeMonth_31 : decode cX3_closeMonth 31 = .ok (.if_icmp .ge 88, 3) := by decide +kernel
theorem dX3_closeMonth_34 : decode cX3_closeMonth 34 = .ok (.aload_n 0, 1) := by decide +kernel
theorem dX3_closeMonth_35 : decode cX3_closeMonth 35 = .ok (.getfield 51, 3) := by decide +kernel
theorem dX3_closeMonth_38 : decode cX3_closeMonth 38 = .ok (.iconst 3, 1) := by decide +kernel
theorem dX3_closeMonth_39 : decode cX3_closeMonth 39 = .ok (.aload_n 0, 1) := by decide +kernel
theorem dX3_closeMonth_40 : decode cX3_closeMonth 40 = .ok (.getfield 73, 3) := by decide +kernel
theorem dX3_closeMonth_43 : decode cX3_closeMonth 43 = .ok (.imul, 1) := by decide +kernel
theorem dX3_closeMonth_44 : decode cX3_closeMonth 44 = .ok (.aload_n 0, 1) := by decide +kernel
theorem dX3_closeMonth_45 : decode cX3_closeMonth 45 = .ok (.getfield 17, 3) := by decide +kernel
theorem dX3_closeMonth_48 : decode cX3_closeMonth 48 = .ok (.iload_n 3, 1) := by decide +kernel
theorem dX3_closeMonth_49 : decode cX3_closeMonth 49 = .ok (.iaload, 1) := by decide +kernel
theorem dX3_closeMonth_50 : decode cX3_closeMonth 50 = .ok (.iadd, 1) := by decide +kernel
theorem dX3_closeMonth_51 : decode cX3_closeMonth 51 = .ok (.dup2, 1) := by decide +kernel
theorem dX3_closeMonth_52 : decode cX3_closeMonth 52 = .ok (.iaload, 1) := by decide +kernel
theorem dX3_closeMonth_53 : decode cX3_closeMonth 53 = .ok (.aload_n 0, 1) := by decide +kernel
theorem dX3_closeMonth_54 : decode cX3_closeMonth 54 = .ok (.iload_n 3, 1) := by decide +kernel
theorem dX3_closeMonth_55 : decode cX3_closeMonth 55 = .ok (.iconst 3, 1) := by decide +kernel
theorem dX3_closeMonth_56 : decode cX3_closeMonth 56 = .ok (.invokevirtual 113, 3) := by decide +kernel
theorem dX3_closeMonth_59 : decode cX3_closeMonth 59 = .ok (.iadd, 1) := by decide +kernel
theorem dX3_closeMonth_60 : decode cX3_closeMonth 60 = .ok (.iastore, 1) := by decide +kernel
theorem dX3_closeMonth_61 : decode cX3_closeMonth 61 = .ok (.aload_n 0, 1) := by decide +kernel
theorem dX3_closeMonth_62 : decode cX3_closeMonth 62 = .ok (.getfield 54, 3) := by decide +kernel
theorem dX3_closeMonth_65 : decode cX3_closeMonth 65 = .ok (.iconst 3, 1) := by decide +kernel
theorem dX3_closeMonth_66 : decode cX3_closeMonth 66 = .ok (.aload_n 0, 1) := by decide +kernel
theorem dX3_closeMonth_67 : decode cX3_closeMonth 67 = .ok (.getfield 73, 3) := by decide +kernel
theorem dX3_closeMonth_70 : decode cX3_closeMonth 70 = .ok (.imul, 1) := by decide +kernel
theorem dX3_closeMonth_71 : decode cX3_closeMonth 71 = .ok (.aload_n 0, 1) := by decide +kernel
theorem dX3_closeMonth_72 : decode cX3_closeMonth 72 = .ok (.getfield 20, 3) := by decide +kernel
theorem dX3_closeMonth_75 : decode cX3_closeMonth 75 = .ok (.iload_n 3, 1) := by decide +kernel
theorem dX3_closeMonth_76 : decode cX3_closeMonth 76 = .ok (.iaload, 1) := by decide +kernel
theorem dX3_closeMonth_77 : decode cX3_closeMonth 77 = .ok (.iadd, 1) := by decide +kernel
theorem dX3_closeMonth_78 : decode cX3_closeMonth 78 = .ok (.dup2, 1) := by decide +kernel
theorem dX3_closeMonth_79 : decode cX3_closeMonth 79 = .ok (.iaload, 1) := by decide +kernel
theorem dX3_closeMonth_80 : decode cX3_closeMonth 80 = .ok (.aload_n 0, 1) := by decide +kernel
theorem dX3_closeMonth_81 : decode cX3_closeMonth 81 = .ok (.iload_n 3, 1) := by decide +kernel
theorem dX3_closeMonth_82 : decode cX3_closeMonth 82 = .ok (.iconst 3, 1) := by decide +kernel
theorem dX3_closeMonth_83 : decode cX3_closeMonth 83 = .ok (.invokevirtual 113, 3) := by decide +kernel
theorem dX3_closeMonth_86 : decode cX3_closeMonth 86 = .ok (.iadd, 1) := by decide +kernel
theorem dX3_closeMonth_87 : decode cX3_closeMonth 87 = .ok (.iastore, 1) := by decide +kernel
theorem dX3_closeMonth_88 : decode cX3_closeMonth 88 = .ok (.iload_n 1, 1) := by decide +kernel
theorem dX3_closeMonth_89 : decode cX3_closeMonth 89 = .ok (.aload_n 0, 1) := by decide +kernel
theorem dX3_closeMonth_90 : decode cX3_closeMonth 90 = .ok (.iload_n 3, 1) := by decide +kernel
theorem dX3_closeMonth_91 : decode cX3_closeMonth 91 = .ok (.iconst 1, 1) := by decide +kernel
theorem dX3_closeMonth_92 : decode cX3_closeMonth 92 = .ok (.invokevirtual 113, 3) := by decide +kernel
theorem dX3_closeMonth_95 : decode cX3_closeMonth 95 = .ok (.aload_n 0, 1) := by decide +kernel
theorem dX3_closeMonth_96 : decode cX3_closeMonth 96 = .ok (.iload_n 3, 1) := by decide +kernel
theorem dX3_closeMonth_97 : decode cX3_closeMonth 97 = .ok (.iconst 2, 1) := by decide +kernel
theorem dX3_closeMonth_98 : decode cX3_closeMonth 98 = .ok (.invokevirtual 113, 3) := by decide +kernel
theorem dX3_closeMonth_101 : decode cX3_closeMonth 101 = .ok (.iadd, 1) := by decide +kernel
theorem dX3_closeMonth_102 : decode cX3_closeMonth 102 = .ok (.iadd, 1) := by decide +kernel
theorem dX3_closeMonth_103 : decode cX3_closeMonth 103 = .ok (.istore_n 1, 1) := by decide +kernel
theorem dX3_closeMonth_104 : decode cX3_closeMonth 104 = .ok (.iload_n 2, 1) := by decide +kernel
theorem dX3_closeMonth_105 : decode cX3_closeMonth 105 = .ok (.aload_n 0, 1) := by decide +kernel
theorem dX3_closeMonth_106 : decode cX3_closeMonth 106 = .ok (.iload_n 3, 1) := by decide +kernel
theorem dX3_closeMonth_107 : decode cX3_closeMonth 107 = .ok (.iconst 0, 1) := by decide +kernel
theorem dX3_closeMonth_108 : decode cX3_closeMonth 108 = .ok (.invokevirtual 113, 3) := by decide +kernel
theorem dX3_closeMonth_111 : decode cX3_closeMonth 111 = .ok (.iadd, 1) := by decide +kernel
theorem dX3_closeMonth_112 : decode cX3_closeMonth 112 = .ok (.istore_n 2, 1) := by decide +kernel
theorem dX3_closeMonth_113 : decode cX3_closeMonth 113 = .ok (.iinc 3 1, 3) := by decide +kernel
theorem dX3_closeMonth_116 : decode cX3_closeMonth 116 = .ok (.goto (-90), 3) := by decide +kernel
theorem dX3_closeMonth_119 : decode cX3_closeMonth 119 = .ok (.iconst 0, 1) := by decide +kernel
theorem dX3_closeMonth_120 : decode cX3_closeMonth 120 = .ok (.istore_n 3, 1) := by decide +kernel
theorem dX3_closeMonth_121 : decode cX3_closeMonth 121 = .ok (.iload_n 3, 1) := by decide +kernel
theorem dX3_closeMonth_122 : decode cX3_closeMonth 122 = .ok (.iconst 3, 1) := by decide +kernel
theorem dX3_closeMonth_123 : decode cX3_closeMonth 123 = .ok (.if_icmp .ge 52, 3) := by decide +kernel
theorem dX3_closeMonth_126 : decode cX3_closeMonth 126 = .ok (.aload_n 0, 1) := by decide +kernel
theorem dX3_closeMonth_127 : decode cX3_closeMonth 127 = .ok (.getfield 51, 3) := by decide +kernel
theorem dX3_closeMonth_130 : decode cX3_closeMonth 130 = .ok (.iconst 3, 1) := by decide +kernel
theorem dX3_closeMonth_131 : decode cX3_closeMonth 131 = .ok (.aload_n 0, 1) := by decide +kernel
theorem dX3_closeMonth_132 : decode cX3_closeMonth 132 = .ok (.getfield 73, 3) := by decide +kernel
theorem dX3_closeMonth_135 : decode cX3_closeMonth 135 = .ok (.imul, 1) := by decide +kernel
theorem dX3_closeMonth_136 : decode cX3_closeMonth 136 = .ok (.iload_n 3, 1) := by decide +kernel
theorem dX3_closeMonth_137 : decode cX3_closeMonth 137 = .ok (.iadd, 1) := by decide +kernel
theorem dX3_closeMonth_138 : decode cX3_closeMonth 138 = .ok (.dup2, 1) := by decide +kernel
theorem dX3_closeMonth_139 : decode cX3_closeMonth 139 = .ok (.iaload, 1) := by decide +kernel
theorem dX3_closeMonth_140 : decode cX3_closeMonth 140 = .ok (.aload_n 0, 1) := by decide +kernel
theorem dX3_closeMonth_141 : decode cX3_closeMonth 141 = .ok (.iload_n 3, 1) := by decide +kernel
theorem dX3_closeMonth_142 : decode cX3_closeMonth 142 = .ok (.invokevirtual 117, 3) := by decide +kernel
theorem dX3_closeMonth_145 : decode cX3_closeMonth 145 = .ok (.aload_n 0, 1) := by decide +kernel
theorem dX3_closeMonth_146 : decode cX3_closeMonth 146 = .ok (.iload_n 3, 1) := by decide +kernel
theorem dX3_closeMonth_147 : decode cX3_closeMonth 147 = .ok (.invokevirtual 120, 3) := by decide +kernel
theorem dX3_closeMonth_150 : decode cX3_closeMonth 150 = .ok (.isub, 1) := by decide +kernel
theorem dX3_closeMonth_151 : decode cX3_closeMonth 151 = .ok (.iadd, 1) := by decide +kernel
theorem dX3_closeMonth_152 : decode cX3_closeMonth 152 = .ok (.iastore, 1) := by decide +kernel
theorem dX3_closeMonth_153 : decode cX3_closeMonth 153 = .ok (.iload_n 1, 1) := by decide +kernel
theorem dX3_closeMonth_154 : decode cX3_closeMonth 154 = .ok (.aload_n 0, 1) := by decide +kernel
theorem dX3_closeMonth_155 : decode cX3_closeMonth 155 = .ok (.iload_n 3, 1) := by decide +kernel
theorem dX3_closeMonth_156 : decode cX3_closeMonth 156 = .ok (.invokevirtual 117, 3) := by decide +kernel
theorem dX3_closeMonth_159 : decode cX3_closeMonth 159 = .ok (.isub, 1) := by decide +kernel
theorem dX3_closeMonth_160 : decode cX3_closeMonth 160 = .ok (.istore_n 1, 1) := by decide +kernel
theorem dX3_closeMonth_161 : decode cX3_closeMonth 161 = .ok (.iload_n 2, 1) := by decide +kernel
theorem dX3_closeMonth_162 : decode cX3_closeMonth 162 = .ok (.aload_n 0, 1) := by decide +kernel
theorem dX3_closeMonth_163 : decode cX3_closeMonth 163 = .ok (.iload_n 3, 1) := by decide +kernel
theorem dX3_closeMonth_164 : decode cX3_closeMonth 164 = .ok (.invokevirtual 120, 3) := by decide +kernel
theorem dX3_closeMonth_167 : decode cX3_closeMonth 167 = .ok (.isub, 1) := by decide +kernel
theorem dX3_closeMonth_168 : decode cX3_closeMonth 168 = .ok (.istore_n 2, 1) := by decide +kernel
theorem dX3_closeMonth_169 : decode cX3_closeMonth 169 = .ok (.iinc 3 1, 3) := by decide +kernel
theorem dX3_closeMonth_172 : decode cX3_closeMonth 172 = .ok (.goto (-51), 3) := by decide +kernel
theorem dX3_closeMonth_175 : decode cX3_closeMonth 175 = .ok (.aload_n 0, 1) := by decide +kernel
theorem dX3_closeMonth_176 : decode cX3_closeMonth 176 = .ok (.getfield 57, 3) := by decide +kernel
theorem dX3_closeMonth_179 : decode cX3_closeMonth 179 = .ok (.aload_n 0, 1) := by decide +kernel
theorem dX3_closeMonth_180 : decode cX3_closeMonth 180 = .ok (.getfield 73, 3) := by decide +kernel
theorem dX3_closeMonth_183 : decode cX3_closeMonth 183 = .ok (.iload_n 1, 1) := by decide +kernel
theorem dX3_closeMonth_184 : decode cX3_closeMonth 184 = .ok (.iastore, 1) := by decide +kernel
theorem dX3_closeMonth_185 : decode cX3_closeMonth 185 = .ok (.aload_n 0, 1) := by decide +kernel
theorem dX3_closeMonth_186 : decode cX3_closeMonth 186 = .ok (.getfield 60, 3) := by decide +kernel
theorem dX3_closeMonth_189 : decode cX3_closeMonth 189 = .ok (.aload_n 0, 1) := by decide +kernel
theorem dX3_closeMonth_190 : decode cX3_closeMonth 190 = .ok (.getfield 73, 3) := by decide +kernel
theorem dX3_closeMonth_193 : decode cX3_closeMonth 193 = .ok (.iload_n 2, 1) := by decide +kernel
theorem dX3_closeMonth_194 : decode cX3_closeMonth 194 = .ok (.iastore, 1) := by decide +kernel
theorem dX3_closeMonth_195 : decode cX3_closeMonth 195 = .ok (.iconst 0, 1) := by decide +kernel
theorem dX3_closeMonth_196 : decode cX3_closeMonth 196 = .ok (.istore_n 3, 1) := by decide +kernel
theorem dX3_closeMonth_197 : decode cX3_closeMonth 197 = .ok (.iload_n 3, 1) := by decide +kernel
theorem dX3_closeMonth_198 : decode cX3_closeMonth 198 = .ok (.aload_n 0, 1) := by decide +kernel
theorem dX3_closeMonth_199 : decode cX3_closeMonth 199 = .ok (.getfield 66, 3) := by decide +kernel
theorem dX3_closeMonth_202 : decode cX3_closeMonth 202 = .ok (.if_icmp .ge 47, 3) := by decide +kernel
theorem dX3_closeMonth_205 : decode cX3_closeMonth 205 = .ok (.aload_n 0, 1) := by decide +kernel
theorem dX3_closeMonth_206 : decode cX3_closeMonth 206 = .ok (.getfield 73, 3) := by decide +kernel
theorem dX3_closeMonth_209 : decode cX3_closeMonth 209 = .ok (.aload_n 0, 1) := by decide +kernel
theorem dX3_closeMonth_210 : decode cX3_closeMonth 210 = .ok (.getfield 33, 3) := by decide +kernel
theorem dX3_closeMonth_213 : decode cX3_closeMonth 213 = .ok (.iload_n 3, 1) := by decide +kernel
theorem dX3_closeMonth_214 : decode cX3_closeMonth 214 = .ok (.iaload, 1) := by decide +kernel
theorem dX3_closeMonth_215 : decode cX3_closeMonth 215 = .ok (.isub, 1) := by decide +kernel
theorem dX3_closeMonth_216 : decode cX3_closeMonth 216 = .ok (.bipush 6, 2) := by decide +kernel
theorem dX3_closeMonth_218 : decode cX3_closeMonth 218 = .ok (.if_icmp .ge 25, 3) := by decide +kernel
theorem dX3_closeMonth_221 : decode cX3_closeMonth 221 = .ok (.aload_n 0, 1) := by decide +kernel
theorem dX3_closeMonth_222 : decode cX3_closeMonth 222 = .ok (.getfield 36, 3) := by decide +kernel
theorem dX3_closeMonth_225 : decode cX3_closeMonth 225 = .ok (.bipush 6, 2) := by decide +kernel
theorem dX3_closeMonth_227 : decode cX3_closeMonth 227 = .ok (.iload_n 3, 1) := by decide +kernel
theorem dX3_closeMonth_228 : decode cX3_closeMonth 228 = .ok (.imul, 1) := by decide +kernel
theorem dX3_closeMonth_229 : decode cX3_closeMonth 229 = .ok (.aload_n 0, 1) := by decide +kernel
theorem dX3_closeMonth_230 : decode cX3_closeMonth 230 = .ok (.getfield 73, 3) := by decide +kernel
theorem dX3_closeMonth_233 : decode cX3_closeMonth 233 = .ok (.iadd, 1) := by decide +kernel
theorem dX3_closeMonth_234 : decode cX3_closeMonth 234 = .ok (.aload_n 0, 1) := by decide +kernel
theorem dX3_closeMonth_235 : decode cX3_closeMonth 235 = .ok (.getfield 33, 3) := by decide +kernel
theorem dX3_closeMonth_238 : decode cX3_closeMonth 238 = .ok (.iload_n 3, 1) := by decide +kernel
theorem dX3_closeMonth_239 : decode cX3_closeMonth 239 = .ok (.iaload, 1) := by decide +kernel
theorem dX3_closeMonth_240 : decode cX3_closeMonth 240 = .ok (.isub, 1) := by decide +kernel
theorem dX3_closeMonth_241 : decode cX3_closeMonth 241 = .ok (.iconst 0, 1) := by decide +kernel
theorem dX3_closeMonth_242 : decode cX3_closeMonth 242 = .ok (.iastore, 1) := by decide +kernel
theorem dX3_closeMonth_243 : decode cX3_closeMonth 243 = .ok (.iinc 3 1, 3) := by decide +kernel
theorem dX3_closeMonth_246 : decode cX3_closeMonth 246 = .ok (.goto (-49), 3) := by decide +kernel
theorem dX3_closeMonth_249 : decode cX3_closeMonth 249 = .ok (.aload_n 0, 1) := by decide +kernel
theorem dX3_closeMonth_250 : decode cX3_closeMonth 250 = .ok (.dup, 1) := by decide +kernel
theorem dX3_closeMonth_251 : decode cX3_closeMonth 251 = .ok (.getfield 73, 3) := by decide +kernel
theorem dX3_closeMonth_254 : decode cX3_closeMonth 254 = .ok (.iconst 1, 1) := by decide +kernel
theorem dX3_closeMonth_255 : decode cX3_closeMonth 255 = .ok (.iadd, 1) := by decide +kernel
theorem dX3_closeMonth_256 : decode cX3_closeMonth 256 = .ok (.putfield 73, 3) := by decide +kernel
theorem dX3_closeMonth_259 : decode cX3_closeMonth 259 = .ok (.aload_n 0, 1) := by decide +kernel
theorem dX3_closeMonth_260 : decode cX3_closeMonth 260 = .ok (.aload_n 0, 1) := by decide +kernel
theorem dX3_closeMonth_261 : decode cX3_closeMonth 261 = .ok (.getfield 73, 3) := by decide +kernel
theorem dX3_closeMonth_264 : decode cX3_closeMonth 264 = .ok (.bipush 6, 2) := by decide +kernel
theorem dX3_closeMonth_266 : decode cX3_closeMonth 266 = .ok (.irem, 1) := by decide +kernel
theorem dX3_closeMonth_267 : decode cX3_closeMonth 267 = .ok (.invokevirtual 106, 3) := by decide +kernel
theorem dX3_closeMonth_270 : decode cX3_closeMonth 270 = .ok (.aload_n 0, 1) := by decide +kernel
theorem dX3_closeMonth_271 : decode cX3_closeMonth 271 = .ok (.getfield 73, 3) := by decide +kernel
theorem dX3_closeMonth_274 : decode cX3_closeMonth 274 = .ok (.ireturn, 1) := by decide +kernel
theorem dX3_month_0 : decode cX3_month 0 = .ok (.aload_n 0, 1) := by decide +kernel
theorem dX3_month_1 : decode cX3_month 1 = .ok (.iconst 0, 1) := by decide +kernel
theorem dX3_month_2 : decode cX3_month 2 = .ok (.putfield 63, 3) := by decide +kernel
theorem dX3_month_5 : decode cX3_month 5 = .ok (.aload_n 0, 1) := by decide +kernel
theorem dX3_month_6 : decode cX3_month 6 = .ok (.getfield 73, 3) := by decide +kernel
theorem dX3_month_9 : decode cX3_month 9 = .ok (.ireturn, 1) := by decide +kernel
theorem dX3_loans_0 : decode cX3_loans 0 = .ok (.aload_n 0, 1) := by decide +kernel
theorem dX3_loans_1 : decode cX3_loans 1 = .ok (.iconst 0, 1) := by decide +kernel
theorem dX3_loans_2 : decode cX3_loans 2 = .ok (.putfield 63, 3) := by decide +kernel
theorem dX3_loans_5 : decode cX3_loans 5 = .ok (.aload_n 0, 1) := by decide +kernel
theorem dX3_loans_6 : decode cX3_loans 6 = .ok (.getfield 66, 3) := by decide +kernel
theorem dX3_loans_9 : decode cX3_loans 9 = .ok (.ireturn, 1) := by decide +kernel
set_option maxRecDepth 20000 in
theorem ggX3_left_X3_isLoan : GoodIn wsX3_left wsX3_isLoan := goodIn_r _ [6, 7, 8, 9, 5, 10, 20, 21, 22, 23, 24, 25, 26, 27, 28, 29, 30, 31, 32, 33, 34, 35, 36, 37, 38, 39, 40, 41] (by decide +kernel) (by decide +kernel)
set_option maxRecDepth 20000 in
theorem gX3_left_X3_isLoan : GoodIn wsX3_left (wsV RX3 96 RX3 yX3_isLoan wsX3_isLoan) := goodIn_app (goodIn_of _ (by decide +kernel)) ggX3_left_X3_isLoan
set_option maxRecDepth 20000 in
theorem ggX3_left_X3_leftOf : GoodIn wsX3_left wsX3_leftOf := goodIn_r _ [14, 15, 20, 21, 22, 23, 24, 25, 26, 27, 28, 29, 30, 31, 32, 33, 34, 35, 36, 37, 38, 39, 40, 41] (by decide +kernel) (by decide +kernel)
set_option maxRecDepth 20000 in
theorem gX3_left_X3_leftOf : GoodIn wsX3_left (wsV RX3 86 RX3 yX3_leftOf wsX3_leftOf) := goodIn_app (goodIn_of _ (by decide +kernel)) ggX3_left_X3_leftOf
set_option maxRecDepth 20000 in
theorem ggX3_left_X3_fails : GoodIn wsX3_left wsX3_fails := goodIn_r _ [19, 1, 20, 21, 22, 23, 24, 25, 26, 27, 28, 29, 30, 31, 32, 33, 34, 35, 36, 37, 38, 39, 40, 41] (by decide +kernel) (by decide +kernel)
set_option maxRecDepth 20000 in
theorem gX3_left_X3_fails : GoodIn wsX3_left (wsV RX3 76 RX3 yX3_fails wsX3_fails) := goodIn_app (goodIn_of _ (by decide +kernel)) ggX3_left_X3_fails
theorem dX3_left_0 : decode cX3_left 0 = .ok (.aload_n 0, 1) := by decide +kernel
theorem dX3_left_1 : decode cX3_left 1 = .ok (.iconst 0, 1) := by decide +kernel
theorem dX3_left_2 : decode cX3_left 2 = .ok (.putfield 63, 3) := by decide +kernel
theorem dX3_left_5 : decode cX3_left 5 = .ok (.aload_n 0, 1) := by decide +kernel
theorem dX3_left_6 : decode cX3_left 6 = .ok (.iload_n 1, 1) := by decide +kernel
theorem dX3_left_7 : decode cX3_left 7 = .ok (.invokevirtual 96, 3) := by decide +kernel
theorem dX3_left_10 : decode cX3_left 10 = .ok (.ifCond .eq 11, 3) := by decide +kernel
theorem dX3_left_13 : decode cX3_left 13 = .ok (.aload_n 0, 1) := by decide +kernel
theorem dX3_left_14 : decode cX3_left 14 = .ok (.iload_n 1, 1) := by decide +kernel
theorem dX3_left_15 : decode cX3_left 15 = .ok (.invokevirtual 86, 3) := by decide +kernel
theorem dX3_left_18 : decode cX3_left 18 = .ok (.goto 8, 3) := by decide +kernel
theorem dX3_left_21 : decode cX3_left 21 = .ok (.aload_n 0, 1) := by decide +kernel
theorem dX3_left_22 : decode cX3_left 22 = .ok (.iconst 1, 1) := by decide +kernel
theorem dX3_left_23 : decode cX3_left 23 = .ok (.invokevirtual 76, 3) := by decide +kernel
theorem dX3_left_26 : decode cX3_left 26 = .ok (.ireturn, 1) := by decide +kernel
set_option maxRecDepth 20000 in
theorem ggX3_bears_X3_isLoan : GoodIn wsX3_bears wsX3_isLoan := goodIn_r _ [6, 7, 8, 9, 5, 10, 29, 30, 31, 32, 33, 34, 35, 36, 37, 38, 39, 40, 41, 42, 43, 44, 45, 46, 47, 48, 49, 50] (by decide +kernel) (by decide +kernel)
set_option maxRecDepth 20000 in
theorem gX3_bears_X3_isLoan : GoodIn wsX3_bears (wsV RX3 96 RX3 yX3_isLoan wsX3_isLoan) := goodIn_app (goodIn_of _ (by decide +kernel)) ggX3_bears_X3_isLoan
set_option maxRecDepth 20000 in
theorem ggX3_bears_X3_fails : GoodIn wsX3_bears wsX3_fails := goodIn_r _ [14, 1, 29, 30, 31, 32, 33, 34, 35, 36, 37, 38, 39, 40, 41, 42, 43, 44, 45, 46, 47, 48, 49, 50] (by decide +kernel) (by decide +kernel)
set_option maxRecDepth 20000 in
theorem gX3_bears_X3_fails : GoodIn wsX3_bears (wsV RX3 76 RX3 yX3_fails wsX3_fails) := goodIn_app (goodIn_of _ (by decide +kernel)) ggX3_bears_X3_fails
set_option maxRecDepth 20000 in
theorem ggX3_bears_X3_in : GoodIn wsX3_bears wsX3_in := goodIn_r _ [10] (by decide +kernel) (by decide +kernel)
set_option maxRecDepth 20000 in
theorem gX3_bears_X3_in : GoodIn wsX3_bears (va_wsS RX3 69 yX3_in wsX3_in) := goodIn_app (goodIn_of _ (by decide +kernel)) ggX3_bears_X3_in
set_option maxRecDepth 20000 in
theorem ggX3_bears_X3_bear : GoodIn wsX3_bears wsX3_bear := goodIn_r _ [18, 19, 20, 21, 22, 23, 24, 25, 26, 27, 5, 28, 29, 30, 31, 32, 33, 34, 35, 36, 37, 38, 39, 40, 41, 42, 43, 44, 45, 46, 47, 48, 49, 50] (by decide +kernel) (by decide +kernel)
set_option maxRecDepth 20000 in
theorem gX3_bears_X3_bear : GoodIn wsX3_bears (wsV RX3 113 RX3 yX3_bear wsX3_bear) := goodIn_app (goodIn_of _ (by decide +kernel)) ggX3_bears_X3_bear
theorem dX3_bears_0 : decode cX3_bears 0 = .ok (.aload_n 0, 1) := by decide +kernel
theorem dX3_bears_1 : decode cX3_bears 1 = .ok (.iconst 0, 1) := by decide +kernel
theorem dX3_bears_2 : decode cX3_bears 2 = .ok (.putfield 63, 3) := by decide +kernel
theorem dX3_bears_5 : decode cX3_bears 5 = .ok (.aload_n 0, 1) := by decide +kernel
theorem dX3_bears_6 : decode cX3_bears 6 = .ok (.iload_n 1, 1) := by decide +kernel
theorem dX3_bears_7 : decode cX3_bears 7 = .ok (.invokevirtual 96, 3) := by decide +kernel
theorem dX3_bears_10 : decode cX3_bears 10 = .ok (.ifCond .ne 9, 3) := by decide +kernel
theorem dX3_bears_13 : decode cX3_bears 13 = .ok (.aload_n 0, 1) := by decide +kernel
theorem dX3_bears_14 : decode cX3_bears 14 = .ok (.iconst 1, 1) := by decide +kernel
theorem dX3_bears_15 : decode cX3_bears 15 = .ok (.invokevirtual 76, 3) := by decide +kernel
theorem dX3_bears_18 : decode cX3_bears 18 = .ok (.ireturn, 1) := by decide +kernel
theorem dX3_bears_19 : decode cX3_bears 19 = .ok (.iload_n 2, 1) := by decide +kernel
theorem dX3_bears_20 : decode cX3_bears 20 = .ok (.iconst 0, 1) := by decide +kernel
theorem dX3_bears_21 : decode cX3_bears 21 = .ok (.iconst 3, 1) := by decide +kernel
theorem dX3_bears_22 : decode cX3_bears 22 = .ok (.invokestatic 69, 3) := by decide +kernel
theorem dX3_bears_25 : decode cX3_bears 25 = .ok (.ifCond .eq 12, 3) := by decide +kernel
theorem dX3_bears_28 : decode cX3_bears 28 = .ok (.aload_n 0, 1) := by decide +kernel
theorem dX3_bears_29 : decode cX3_bears 29 = .ok (.iload_n 1, 1) := by decide +kernel
theorem dX3_bears_30 : decode cX3_bears 30 = .ok (.iload_n 2, 1) := by decide +kernel
theorem dX3_bears_31 : decode cX3_bears 31 = .ok (.invokevirtual 113, 3) := by decide +kernel
theorem dX3_bears_34 : decode cX3_bears 34 = .ok (.goto 8, 3) := by decide +kernel
theorem dX3_bears_37 : decode cX3_bears 37 = .ok (.aload_n 0, 1) := by decide +kernel
theorem dX3_bears_38 : decode cX3_bears 38 = .ok (.iconst 2, 1) := by decide +kernel
theorem dX3_bears_39 : decode cX3_bears 39 = .ok (.invokevirtual 76, 3) := by decide +kernel
theorem dX3_bears_42 : decode cX3_bears 42 = .ok (.ireturn, 1) := by decide +kernel
set_option maxRecDepth 20000 in
theorem ggX3_due_X3_in : GoodIn wsX3_due wsX3_in := goodIn_r _ [9] (by decide +kernel) (by decide +kernel)
set_option maxRecDepth 20000 in
theorem gX3_due_X3_in : GoodIn wsX3_due (va_wsS RX3 69 yX3_in wsX3_in) := goodIn_app (goodIn_of _ (by decide +kernel)) ggX3_due_X3_in
set_option maxRecDepth 20000 in
theorem ggX3_due_X3_fails : GoodIn wsX3_due wsX3_fails := goodIn_r _ [13, 1, 14, 15, 16, 17, 18, 19, 20, 21, 22, 23, 24, 25, 26, 27, 28, 29, 30, 31, 32, 33, 34, 35] (by decide +kernel) (by decide +kernel)
set_option maxRecDepth 20000 in
theorem gX3_due_X3_fails : GoodIn wsX3_due (wsV RX3 76 RX3 yX3_fails wsX3_fails) := goodIn_app (goodIn_of _ (by decide +kernel)) ggX3_due_X3_fails
theorem dX3_due_0 : decode cX3_due 0 = .ok (.aload_n 0, 1) := by decide +kernel
theorem dX3_due_1 : decode cX3_due 1 = .ok (.iconst 0, 1) := by decide +kernel
theorem dX3_due_2 : decode cX3_due 2 = .ok (.putfield 63, 3) := by decide +kernel
theorem dX3_due_5 : decode cX3_due 5 = .ok (.iload_n 1, 1) := by decide +kernel
theorem dX3_due_6 : decode cX3_due 6 = .ok (.iconst 0, 1) := by decide +kernel
theorem dX3_due_7 : decode cX3_due 7 = .ok (.iconst 5, 1) := by decide +kernel
theorem dX3_due_8 : decode cX3_due 8 = .ok (.invokestatic 69, 3) := by decide +kernel
theorem dX3_due_11 : decode cX3_due 11 = .ok (.ifCond .ne 9, 3) := by decide +kernel
theorem dX3_due_14 : decode cX3_due 14 = .ok (.aload_n 0, 1) := by decide +kernel
theorem dX3_due_15 : decode cX3_due 15 = .ok (.iconst 1, 1) := by decide +kernel
theorem dX3_due_16 : decode cX3_due 16 = .ok (.invokevirtual 76, 3) := by decide +kernel
theorem dX3_due_19 : decode cX3_due 19 = .ok (.ireturn, 1) := by decide +kernel
theorem dX3_due_20 : decode cX3_due 20 = .ok (.iconst 0, 1) := by decide +kernel
theorem dX3_due_21 : decode cX3_due 21 = .ok (.istore_n 2, 1) := by decide +kernel
theorem dX3_due_22 : decode cX3_due 22 = .ok (.iconst 0, 1) := by decide +kernel
theorem dX3_due_23 : decode cX3_due 23 = .ok (.istore_n 3, 1) := by decide +kernel
theorem dX3_due_24 : decode cX3_due 24 = .ok (.iload_n 3, 1) := by decide +kernel
theorem dX3_due_25 : decode cX3_due 25 = .ok (.aload_n 0, 1) := by decide +kernel
theorem dX3_due_26 : decode cX3_due 26 = .ok (.getfield 66, 3) := by decide +kernel
theorem dX3_due_29 : decode cX3_due 29 = .ok (.if_icmp .ge 50, 3) := by decide +kernel
theorem dX3_due_32 : decode cX3_due 32 = .ok (.aload_n 0, 1) := by decide +kernel
theorem dX3_due_33 : decode cX3_due 33 = .ok (.getfield 73, 3) := by decide +kernel
theorem dX3_due_36 : decode cX3_due 36 = .ok (.iload_n 1, 1) := by decide +kernel
theorem dX3_due_37 : decode cX3_due 37 = .ok (.iadd, 1) := by decide +kernel
theorem dX3_due_38 : decode cX3_due 38 = .ok (.aload_n 0, 1) := by decide +kernel
theorem dX3_due_39 : decode cX3_due 39 = .ok (.getfield 33, 3) := by decide +kernel
theorem dX3_due_42 : decode cX3_due 42 = .ok (.iload_n 3, 1) := by decide +kernel
theorem dX3_due_43 : decode cX3_due 43 = .ok (.iaload, 1) := by decide +kernel
theorem dX3_due_44 : decode cX3_due 44 = .ok (.isub, 1) := by decide +kernel
theorem dX3_due_45 : decode cX3_due 45 = .ok (.istore 4, 2) := by decide +kernel
theorem dX3_due_47 : decode cX3_due 47 = .ok (.iload_n 2, 1) := by decide +kernel
theorem dX3_due_48 : decode cX3_due 48 = .ok (.iload 4, 2) := by decide +kernel
theorem dX3_due_50 : decode cX3_due 50 = .ok (.bipush 6, 2) := by decide +kernel
theorem dX3_due_52 : decode cX3_due 52 = .ok (.if_icmp .ge 18, 3) := by decide +kernel
theorem dX3_due_55 : decode cX3_due 55 = .ok (.aload_n 0, 1) := by decide +kernel
theorem dX3_due_56 : decode cX3_due 56 = .ok (.getfield 36, 3) := by decide +kernel
theorem dX3_due_59 : decode cX3_due 59 = .ok (.bipush 6, 2) := by decide +kernel
theorem dX3_due_61 : decode cX3_due 61 = .ok (.iload_n 3, 1) := by decide +kernel
theorem dX3_due_62 : decode cX3_due 62 = .ok (.imul, 1) := by decide +kernel
theorem dX3_due_63 : decode cX3_due 63 = .ok (.iload 4, 2) := by decide +kernel
theorem dX3_due_65 : decode cX3_due 65 = .ok (.iadd, 1) := by decide +kernel
theorem dX3_due_66 : decode cX3_due 66 = .ok (.iaload, 1) := by decide +kernel
theorem dX3_due_67 : decode cX3_due 67 = .ok (.goto 4, 3) := by decide +kernel
theorem dX3_due_70 : decode cX3_due 70 = .ok (.iconst 0, 1) := by decide +kernel
theorem dX3_due_71 : decode cX3_due 71 = .ok (.iadd, 1) := by decide +kernel
theorem dX3_due_72 : decode cX3_due 72 = .ok (.istore_n 2, 1) := by decide +kernel
theorem dX3_due_73 : decode cX3_due 73 = .ok (.iinc 3 1, 3) := by decide +kernel
theorem dX3_due_76 : decode cX3_due 76 = .ok (.goto (-52), 3) := by decide +kernel
theorem dX3_due_79 : decode cX3_due 79 = .ok (.iload_n 2, 1) := by decide +kernel
theorem dX3_due_80 : decode cX3_due 80 = .ok (.ireturn, 1) := by decide +kernel
set_option maxRecDepth 20000 in
theorem ggX3_balance_X3_isBranch : GoodIn wsX3_balance wsX3_isBranch := goodIn_r _ [6, 7, 8, 5, 9] (by decide +kernel) (by decide +kernel)
set_option maxRecDepth 20000 in
theorem gX3_balance_X3_isBranch : GoodIn wsX3_balance (va_wsS RX3 91 yX3_isBranch wsX3_isBranch) := goodIn_app (goodIn_of _ (by decide +kernel)) ggX3_balance_X3_isBranch
set_option maxRecDepth 20000 in
theorem ggX3_balance_X3_fails : GoodIn wsX3_balance wsX3_fails := goodIn_r _ [13, 1, 14, 15, 16, 17, 18, 19, 20, 21, 22, 23, 24, 25, 26, 27, 28, 29, 30, 31, 32, 33, 34, 35] (by decide +kernel) (by decide +kernel)
set_option maxRecDepth 20000 in
theorem gX3_balance_X3_fails : GoodIn wsX3_balance (wsV RX3 76 RX3 yX3_fails wsX3_fails) := goodIn_app (goodIn_of _ (by decide +kernel)) ggX3_balance_X3_fails
theorem dX3_balance_0 : decode cX3_balance 0 = .ok (.aload_n 0, 1) := by decide +kernel
theorem dX3_balance_1 : decode cX3_balance 1 = .ok (.iconst 0, 1) := by decide +kernel
theorem dX3_balance_2 : decode cX3_balance 2 = .ok (.putfield 63, 3) := by decide +kernel
theorem dX3_balance_5 : decode cX3_balance 5 = .ok (.iload_n 1, 1) := by decide +kernel
theorem dX3_balance_6 : decode cX3_balance 6 = .ok (.invokestatic 91, 3) := by decide +kernel
theorem dX3_balance_9 : decode cX3_balance 9 = .ok (.ifCond .eq 12, 3) := by decide +kernel
theorem dX3_balance_12 : decode cX3_balance 12 = .ok (.aload_n 0, 1) := by decide +kernel
theorem dX3_balance_13 : decode cX3_balance 13 = .ok (.getfield 42, 3) := by decide +kernel
theorem dX3_balance_16 : decode cX3_balance 16 = .ok (.iload_n 1, 1) := by decide +kernel
theorem dX3_balance_17 : decode cX3_balance 17 = .ok (.iaload, 1) := by decide +kernel
theorem dX3_balance_18 : decode cX3_balance 18 = .ok (.goto 8, 3) := by decide +kernel
theorem dX3_balance_21 : decode cX3_balance 21 = .ok (.aload_n 0, 1) := by decide +kernel
theorem dX3_balance_22 : decode cX3_balance 22 = .ok (.iconst 1, 1) := by decide +kernel
theorem dX3_balance_23 : decode cX3_balance 23 = .ok (.invokevirtual 76, 3) := by decide +kernel
theorem dX3_balance_26 : decode cX3_balance 26 = .ok (.ireturn, 1) := by decide +kernel
set_option maxRecDepth 20000 in
theorem ggX3_tranche_X3_in : GoodIn wsX3_tranche wsX3_in := goodIn_r _ [6] (by decide +kernel) (by decide +kernel)
set_option maxRecDepth 20000 in
theorem gX3_tranche_X3_in : GoodIn wsX3_tranche (va_wsS RX3 69 yX3_in wsX3_in) := goodIn_app (goodIn_of _ (by decide +kernel)) ggX3_tranche_X3_in
set_option maxRecDepth 20000 in
theorem ggX3_tranche_X3_fails : GoodIn wsX3_tranche wsX3_fails := goodIn_r _ [10, 1, 11, 12, 13, 14, 15, 16, 17, 18, 19, 20, 21, 22, 23, 24, 25, 26, 27, 28, 29, 30, 31, 32] (by decide +kernel) (by decide +kernel)
set_option maxRecDepth 20000 in
theorem gX3_tranche_X3_fails : GoodIn wsX3_tranche (wsV RX3 76 RX3 yX3_fails wsX3_fails) := goodIn_app (goodIn_of _ (by decide +kernel)) ggX3_tranche_X3_fails
theorem dX3_tranche_0 : decode cX3_tranche 0 = .ok (.aload_n 0, 1) := by decide +kernel
theorem dX3_tranche_1 : decode cX3_tranche 1 = .ok (.iconst 0, 1) := by decide +kernel
theorem dX3_tranche_2 : decode cX3_tranche 2 = .ok (.putfield 63, 3) := by decide +kernel
theorem dX3_tranche_5 : decode cX3_tranche 5 = .ok (.iload_n 1, 1) := by decide +kernel
theorem dX3_tranche_6 : decode cX3_tranche 6 = .ok (.iconst 0, 1) := by decide +kernel
theorem dX3_tranche_7 : decode cX3_tranche 7 = .ok (.iconst 5, 1) := by decide +kernel
theorem dX3_tranche_8 : decode cX3_tranche 8 = .ok (.invokestatic 69, 3) := by decide +kernel
theorem dX3_tranche_11 : decode cX3_tranche 11 = .ok (.ifCond .eq 12, 3) := by decide +kernel
theorem dX3_tranche_14 : decode cX3_tranche 14 = .ok (.aload_n 0, 1) := by decide +kernel
theorem dX3_tranche_15 : decode cX3_tranche 15 = .ok (.getfield 45, 3) := by decide +kernel
theorem dX3_tranche_18 : decode cX3_tranche 18 = .ok (.iload_n 1, 1) := by decide +kernel
theorem dX3_tranche_19 : decode cX3_tranche 19 = .ok (.iaload, 1) := by decide +kernel
theorem dX3_tranche_20 : decode cX3_tranche 20 = .ok (.goto 8, 3) := by decide +kernel
theorem dX3_tranche_23 : decode cX3_tranche 23 = .ok (.aload_n 0, 1) := by decide +kernel
theorem dX3_tranche_24 : decode cX3_tranche 24 = .ok (.iconst 1, 1) := by decide +kernel
theorem dX3_tranche_25 : decode cX3_tranche 25 = .ok (.invokevirtual 76, 3) := by decide +kernel
theorem dX3_tranche_28 : decode cX3_tranche 28 = .ok (.ireturn, 1) := by decide +kernel
set_option maxRecDepth 20000 in
theorem ggX3_replicaRate_X3_replica : GoodIn wsX3_replicaRate wsX3_replica := goodIn_r _ [6, 7, 8, 9, 10, 11, 12, 13, 14, 15, 16, 17, 18, 19, 20, 21, 22, 23, 24, 25, 26, 27, 28, 29, 30] (by decide +kernel) (by decide +kernel)
set_option maxRecDepth 20000 in
theorem gX3_replicaRate_X3_replica : GoodIn wsX3_replicaRate (wsV RX3 110 RX3 yX3_replica wsX3_replica) := goodIn_app (goodIn_of _ (by decide +kernel)) ggX3_replicaRate_X3_replica
theorem dX3_replicaRate_0 : decode cX3_replicaRate 0 = .ok (.aload_n 0, 1) := by decide +kernel
theorem dX3_replicaRate_1 : decode cX3_replicaRate 1 = .ok (.iconst 0, 1) := by decide +kernel
theorem dX3_replicaRate_2 : decode cX3_replicaRate 2 = .ok (.putfield 63, 3) := by decide +kernel
theorem dX3_replicaRate_5 : decode cX3_replicaRate 5 = .ok (.aload_n 0, 1) := by decide +kernel
theorem dX3_replicaRate_6 : decode cX3_replicaRate 6 = .ok (.invokevirtual 110, 3) := by decide +kernel
theorem dX3_replicaRate_9 : decode cX3_replicaRate 9 = .ok (.ireturn, 1) := by decide +kernel
set_option maxRecDepth 20000 in
theorem ggX3_margin_X3_isBranch : GoodIn wsX3_margin wsX3_isBranch := goodIn_r _ [6, 7, 8, 5, 9] (by decide +kernel) (by decide +kernel)
set_option maxRecDepth 20000 in
theorem gX3_margin_X3_isBranch : GoodIn wsX3_margin (va_wsS RX3 91 yX3_isBranch wsX3_isBranch) := goodIn_app (goodIn_of _ (by decide +kernel)) ggX3_margin_X3_isBranch
set_option maxRecDepth 20000 in
theorem ggX3_margin_X3_isEnded : GoodIn wsX3_margin wsX3_isEnded := goodIn_r _ [13, 14, 7, 8, 5, 9, 19, 20, 21, 22, 23, 24, 25, 26, 27, 28, 29, 30, 31, 32, 33, 34, 35, 36, 37, 38, 39, 40] (by decide +kernel) (by decide +kernel)
set_option maxRecDepth 20000 in
theorem gX3_margin_X3_isEnded : GoodIn wsX3_margin (wsV RX3 123 RX3 yX3_isEnded wsX3_isEnded) := goodIn_app (goodIn_of _ (by decide +kernel)) ggX3_margin_X3_isEnded
set_option maxRecDepth 20000 in
theorem ggX3_margin_X3_fails : GoodIn wsX3_margin wsX3_fails := goodIn_r _ [18, 1, 19, 20, 21, 22, 23, 24, 25, 26, 27, 28, 29, 30, 31, 32, 33, 34, 35, 36, 37, 38, 39, 40] (by decide +kernel) (by decide +kernel)
set_option maxRecDepth 20000 in
theorem gX3_margin_X3_fails : GoodIn wsX3_margin (wsV RX3 76 RX3 yX3_fails wsX3_fails) := goodIn_app (goodIn_of _ (by decide +kernel)) ggX3_margin_X3_fails
theorem dX3_margin_0 : decode cX3_margin 0 = .ok (.aload_n 0, 1) := by decide +kernel
theorem dX3_margin_1 : decode cX3_margin 1 = .ok (.iconst 0, 1) := by decide +kernel
theorem dX3_margin_2 : decode cX3_margin 2 = .ok (.putfield 63, 3) := by decide +kernel
theorem dX3_margin_5 : decode cX3_margin 5 = .ok (.iload_n 1, 1) := by decide +kernel
theorem dX3_margin_6 : decode cX3_margin 6 = .ok (.invokestatic 91, 3) := by decide +kernel
theorem dX3_margin_9 : decode cX3_margin 9 = .ok (.ifCond .eq 24, 3) := by decide +kernel
theorem dX3_margin_12 : decode cX3_margin 12 = .ok (.aload_n 0, 1) := by decide +kernel
theorem dX3_margin_13 : decode cX3_margin 13 = .ok (.iload_n 2, 1) := by decide +kernel
theorem dX3_margin_14 : decode cX3_margin 14 = .ok (.invokevirtual 123, 3) := by decide +kernel
theorem dX3_margin_17 : decode cX3_margin 17 = .ok (.ifCond .eq 16, 3) := by decide +kernel
theorem dX3_margin_20 : decode cX3_margin 20 = .ok (.aload_n 0, 1) := by decide +kernel
theorem dX3_margin_21 : decode cX3_margin 21 = .ok (.getfield 51, 3) := by decide +kernel
theorem dX3_margin_24 : decode cX3_margin 24 = .ok (.iconst 3, 1) := by decide +kernel
theorem dX3_margin_25 : decode cX3_margin 25 = .ok (.iload_n 2, 1) := by decide +kernel
theorem dX3_margin_26 : decode cX3_margin 26 = .ok (.imul, 1) := by decide +kernel
theorem dX3_margin_27 : decode cX3_margin 27 = .ok (.iload_n 1, 1) := by decide +kernel
theorem dX3_margin_28 : decode cX3_margin 28 = .ok (.iadd, 1) := by decide +kernel
theorem dX3_margin_29 : decode cX3_margin 29 = .ok (.iaload, 1) := by decide +kernel
theorem dX3_margin_30 : decode cX3_margin 30 = .ok (.goto 8, 3) := by decide +kernel
theorem dX3_margin_33 : decode cX3_margin 33 = .ok (.aload_n 0, 1) := by decide +kernel
theorem dX3_margin_34 : decode cX3_margin 34 = .ok (.iconst 1, 1) := by decide +kernel
theorem dX3_margin_35 : decode cX3_margin 35 = .ok (.invokevirtual 76, 3) := by decide +kernel
theorem dX3_margin_38 : decode cX3_margin 38 = .ok (.ireturn, 1) := by decide +kernel
set_option maxRecDepth 20000 in
theorem ggX3_byProduct_X3_in : GoodIn wsX3_byProduct wsX3_in := goodIn_r _ [6] (by decide +kernel) (by decide +kernel)
set_option maxRecDepth 20000 in
theorem gX3_byProduct_X3_in : GoodIn wsX3_byProduct (va_wsS RX3 69 yX3_in wsX3_in) := goodIn_app (goodIn_of _ (by decide +kernel)) ggX3_byProduct_X3_in
set_option maxRecDepth 20000 in
theorem ggX3_byProduct_X3_isEnded : GoodIn wsX3_byProduct wsX3_isEnded := goodIn_r _ [10, 11, 3, 4, 5, 6, 16, 17, 18, 19, 20, 21, 22, 23, 24, 25, 26, 27, 28, 29, 30, 31, 32, 33, 34, 35, 36, 37] (by decide +kernel) (by decide +kernel)
set_option maxRecDepth 20000 in
theorem gX3_byProduct_X3_isEnded : GoodIn wsX3_byProduct (wsV RX3 123 RX3 yX3_isEnded wsX3_isEnded) := goodIn_app (goodIn_of _ (by decide +kernel)) ggX3_byProduct_X3_isEnded
set_option maxRecDepth 20000 in
theorem ggX3_byProduct_X3_fails : GoodIn wsX3_byProduct wsX3_fails := goodIn_r _ [15, 1, 16, 17, 18, 19, 20, 21, 22, 23, 24, 25, 26, 27, 28, 29, 30, 31, 32, 33, 34, 35, 36, 37] (by decide +kernel) (by decide +kernel)
set_option maxRecDepth 20000 in
theorem gX3_byProduct_X3_fails : GoodIn wsX3_byProduct (wsV RX3 76 RX3 yX3_fails wsX3_fails) := goodIn_app (goodIn_of _ (by decide +kernel)) ggX3_byProduct_X3_fails
theorem dX3_byProduct_0 : decode cX3_byProduct 0 = .ok (.aload_n 0, 1) := by decide +kernel
theorem dX3_byProduct_1 : decode cX3_byProduct 1 = .ok (.iconst 0, 1) := by decide +kernel
theorem dX3_byProduct_2 : decode cX3_byProduct 2 = .ok (.putfield 63, 3) := by decide +kernel
theorem dX3_byProduct_5 : decode cX3_byProduct 5 = .ok (.iload_n 1, 1) := by decide +kernel
theorem dX3_byProduct_6 : decode cX3_byProduct 6 = .ok (.iconst 0, 1) := by decide +kernel
theorem dX3_byProduct_7 : decode cX3_byProduct 7 = .ok (.iconst 2, 1) := by decide +kernel
theorem dX3_byProduct_8 : decode cX3_byProduct 8 = .ok (.invokestatic 69, 3) := by decide +kernel
theorem dX3_byProduct_11 : decode cX3_byProduct 11 = .ok (.ifCond .eq 24, 3) := by decide +kernel
theorem dX3_byProduct_14 : decode cX3_byProduct 14 = .ok (.aload_n 0, 1) := by decide +kernel
theorem dX3_byProduct_15 : decode cX3_byProduct 15 = .ok (.iload_n 2, 1) := by decide +kernel
theorem dX3_byProduct_16 : decode cX3_byProduct 16 = .ok (.invokevirtual 123, 3) := by decide +kernel
theorem dX3_byProduct_19 : decode cX3_byProduct 19 = .ok (.ifCond .eq 16, 3) := by decide +kernel
theorem dX3_byProduct_22 : decode cX3_byProduct 22 = .ok (.aload_n 0, 1) := by decide +kernel
theorem dX3_byProduct_23 : decode cX3_byProduct 23 = .ok (.getfield 54, 3) := by decide +kernel
theorem dX3_byProduct_26 : decode cX3_byProduct 26 = .ok (.iconst 3, 1) := by decide +kernel
theorem dX3_byProduct_27 : decode cX3_byProduct 27 = .ok (.iload_n 2, 1) := by decide +kernel
theorem dX3_byProduct_28 : decode cX3_byProduct 28 = .ok (.imul, 1) := by decide +kernel
theorem dX3_byProduct_29 : decode cX3_byProduct 29 = .ok (.iload_n 1, 1) := by decide +kernel
theorem dX3_byProduct_30 : decode cX3_byProduct 30 = .ok (.iadd, 1) := by decide +kernel
theorem dX3_byProduct_31 : decode cX3_byProduct 31 = .ok (.iaload, 1) := by decide +kernel
theorem dX3_byProduct_32 : decode cX3_byProduct 32 = .ok (.goto 8, 3) := by decide +kernel
theorem dX3_byProduct_35 : decode cX3_byProduct 35 = .ok (.aload_n 0, 1) := by decide +kernel
theorem dX3_byProduct_36 : decode cX3_byProduct 36 = .ok (.iconst 1, 1) := by decide +kernel
theorem dX3_byProduct_37 : decode cX3_byProduct 37 = .ok (.invokevirtual 76, 3) := by decide +kernel
theorem dX3_byProduct_40 : decode cX3_byProduct 40 = .ok (.ireturn, 1) := by decide +kernel
set_option maxRecDepth 20000 in
theorem ggX3_treasury_X3_isEnded : GoodIn wsX3_treasury wsX3_isEnded := goodIn_r _ [7, 8, 9, 10, 6, 11, 16, 17, 18, 19, 20, 21, 22, 23, 24, 25, 26, 27, 28, 29, 30, 31, 32, 33, 34, 35, 36, 37] (by decide +kernel) (by decide +kernel)
set_option maxRecDepth 20000 in
theorem gX3_treasury_X3_isEnded : GoodIn wsX3_treasury (wsV RX3 123 RX3 yX3_isEnded wsX3_isEnded) := goodIn_app (goodIn_of _ (by decide +kernel)) ggX3_treasury_X3_isEnded
set_option maxRecDepth 20000 in
theorem ggX3_treasury_X3_fails : GoodIn wsX3_treasury wsX3_fails := goodIn_r _ [15, 1, 16, 17, 18, 19, 20, 21, 22, 23, 24, 25, 26, 27, 28, 29, 30, 31, 32, 33, 34, 35, 36, 37] (by decide +kernel) (by decide +kernel)
set_option maxRecDepth 20000 in
theorem gX3_treasury_X3_fails : GoodIn wsX3_treasury (wsV RX3 76 RX3 yX3_fails wsX3_fails) := goodIn_app (goodIn_of _ (by decide +kernel)) ggX3_treasury_X3_fails
theorem dX3_treasury_0 : decode cX3_treasury 0 = .ok (.aload_n 0, 1) := by decide +kernel
theorem dX3_treasury_1 : decode cX3_treasury 1 = .ok (.iconst 0, 1) := by decide +kernel
theorem dX3_treasury_2 : decode cX3_treasury 2 = .ok (.putfield 63, 3) := by decide +kernel
theorem dX3_treasury_5 : decode cX3_treasury 5 = .ok (.aload_n 0, 1) := by decide +kernel
theorem dX3_treasury_6 : decode cX3_treasury 6 = .ok (.iload_n 1, 1) := by decide +kernel
theorem dX3_treasury_7 : decode cX3_treasury 7 = .ok (.invokevirtual 123, 3) := by decide +kernel
theorem dX3_treasury_10 : decode cX3_treasury 10 = .ok (.ifCond .eq 12, 3) := by decide +kernel
theorem dX3_treasury_13 : decode cX3_treasury 13 = .ok (.aload_n 0, 1) := by decide +kernel
theorem dX3_treasury_14 : decode cX3_treasury 14 = .ok (.getfield 57, 3) := by decide +kernel
theorem dX3_treasury_17 : decode cX3_treasury 17 = .ok (.iload_n 1, 1) := by decide +kernel
theorem dX3_treasury_18 : decode cX3_treasury 18 = .ok (.iaload, 1) := by decide +kernel
theorem dX3_treasury_19 : decode cX3_treasury 19 = .ok (.goto 8, 3) := by decide +kernel
theorem dX3_treasury_22 : decode cX3_treasury 22 = .ok (.aload_n 0, 1) := by decide +kernel
theorem dX3_treasury_23 : decode cX3_treasury 23 = .ok (.iconst 1, 1) := by decide +kernel
theorem dX3_treasury_24 : decode cX3_treasury 24 = .ok (.invokevirtual 76, 3) := by decide +kernel
theorem dX3_treasury_27 : decode cX3_treasury 27 = .ok (.ireturn, 1) := by decide +kernel
set_option maxRecDepth 20000 in
theorem ggX3_interest_X3_isEnded : GoodIn wsX3_interest wsX3_isEnded := goodIn_r _ [7, 8, 9, 10, 6, 11, 16, 17, 18, 19, 20, 21, 22, 23, 24, 25, 26, 27, 28, 29, 30, 31, 32, 33, 34, 35, 36, 37] (by decide +kernel) (by decide +kernel)
set_option maxRecDepth 20000 in
theorem gX3_interest_X3_isEnded : GoodIn wsX3_interest (wsV RX3 123 RX3 yX3_isEnded wsX3_isEnded) := goodIn_app (goodIn_of _ (by decide +kernel)) ggX3_interest_X3_isEnded
set_option maxRecDepth 20000 in
theorem ggX3_interest_X3_fails : GoodIn wsX3_interest wsX3_fails := goodIn_r _ [15, 1, 16, 17, 18, 19, 20, 21, 22, 23, 24, 25, 26, 27, 28, 29, 30, 31, 32, 33, 34, 35, 36, 37] (by decide +kernel) (by decide +kernel)
set_option maxRecDepth 20000 in
theorem gX3_interest_X3_fails : GoodIn wsX3_interest (wsV RX3 76 RX3 yX3_fails wsX3_fails) := goodIn_app (goodIn_of _ (by decide +kernel)) ggX3_interest_X3_fails
theorem dX3_interest_0 : decode cX3_interest 0 = .ok (.aload_n 0, 1) := by decide +kernel
theorem dX3_interest_1 : decode cX3_interest 1 = .ok (.iconst 0, 1) := by decide +kernel
theorem dX3_interest_2 : decode cX3_interest 2 = .ok (.putfield 63, 3) := by decide +kernel
theorem dX3_interest_5 : decode cX3_interest 5 = .ok (.aload_n 0, 1) := by decide +kernel
theorem dX3_interest_6 : decode cX3_interest 6 = .ok (.iload_n 1, 1) := by decide +kernel
theorem dX3_interest_7 : decode cX3_interest 7 = .ok (.invokevirtual 123, 3) := by decide +kernel
theorem dX3_interest_10 : decode cX3_interest 10 = .ok (.ifCond .eq 12, 3) := by decide +kernel
theorem dX3_interest_13 : decode cX3_interest 13 = .ok (.aload_n 0, 1) := by decide +kernel
theorem dX3_interest_14 : decode cX3_interest 14 = .ok (.getfield 60, 3) := by decide +kernel
theorem dX3_interest_17 : decode cX3_interest 17 = .ok (.iload_n 1, 1) := by decide +kernel
theorem dX3_interest_18 : decode cX3_interest 18 = .ok (.iaload, 1) := by decide +kernel
theorem dX3_interest_19 : decode cX3_interest 19 = .ok (.goto 8, 3) := by decide +kernel
theorem dX3_interest_22 : decode cX3_interest 22 = .ok (.aload_n 0, 1) := by decide +kernel
theorem dX3_interest_23 : decode cX3_interest 23 = .ok (.iconst 1, 1) := by decide +kernel
theorem dX3_interest_24 : decode cX3_interest 24 = .ok (.invokevirtual 76, 3) := by decide +kernel
theorem dX3_interest_27 : decode cX3_interest 27 = .ok (.ireturn, 1) := by decide +kernel
end
section
set_option maxRecDepth 20000 in
theorem ggL_setCurve_X2_setCurve : GoodIn wsL_setCurve wsX2_setCurve := goodIn_ca (goodIn_ca (goodIn_r _ [7, 8, 9, 10, 11, 12, 13, 14, 15, 16, 17, 18, 19, 20, 21, 22, 23, 24, 25] (by decide +kernel) (by decide +kernel)) (goodIn_sub (fun _ h => List.mem_cons_of_mem _ (List.mem_append_left _ (List.mem_append_right _ h))) (by decide +kernel))) (goodIn_sub (fun _ h => List.mem_cons_of_mem _ (List.mem_append_right _ h)) (by decide +kernel))
set_option maxRecDepth 20000 in
theorem gL_setCurve_X2_setCurve : GoodIn wsL_setCurve (wsV RL 7 RX2 yX2_setCurve wsX2_setCurve) := goodIn_app (goodIn_of _ (by decide +kernel)) ggL_setCurve_X2_setCurve
theorem dL_setCurve_0 : decode cL_setCurve 0 = .ok (.aload_n 3, 1) := by decide +kernel
theorem dL_setCurve_1 : decode cL_setCurve 1 = .ok (.iconst 0, 1) := by decide +kernel
theorem dL_setCurve_2 : decode cL_setCurve 2 = .ok (.aload_n 0, 1) := by decide +kernel
theorem dL_setCurve_3 : decode cL_setCurve 3 = .ok (.iload_n 1, 1) := by decide +kernel
theorem dL_setCurve_4 : decode cL_setCurve 4 = .ok (.iload_n 2, 1) := by decide +kernel
theorem dL_setCurve_5 : decode cL_setCurve 5 = .ok (.invokevirtual 7, 3) := by decide +kernel
theorem dL_setCurve_8 : decode cL_setCurve 8 = .ok (.i2l, 1) := by decide +kernel
theorem dL_setCurve_9 : decode cL_setCurve 9 = .ok (.lastore, 1) := by decide +kernel
theorem dL_setCurve_10 : decode cL_setCurve 10 = .ok (.goto 11, 3) := by decide +kernel
theorem dL_setCurve_13 : decode cL_setCurve 13 = .ok (.astore 4, 2) := by decide +kernel
theorem dL_setCurve_15 : decode cL_setCurve 15 = .ok (.iconst 1, 1) := by decide +kernel
theorem dL_setCurve_16 : decode cL_setCurve 16 = .ok (.ireturn, 1) := by decide +kernel
theorem dL_setCurve_17 : decode cL_setCurve 17 = .ok (.astore 4, 2) := by decide +kernel
theorem dL_setCurve_19 : decode cL_setCurve 19 = .ok (.iconst 2, 1) := by decide +kernel
theorem dL_setCurve_20 : decode cL_setCurve 20 = .ok (.ireturn, 1) := by decide +kernel
theorem dL_setCurve_21 : decode cL_setCurve 21 = .ok (.iconst 0, 1) := by decide +kernel
theorem dL_setCurve_22 : decode cL_setCurve 22 = .ok (.ireturn, 1) := by decide +kernel
set_option maxRecDepth 20000 in
theorem ggL_setRates_X2_setRates : GoodIn wsL_setRates wsX2_setRates := goodIn_ca (goodIn_r _ [6, 7, 8, 9, 10, 11, 12, 13, 14, 15, 16, 17, 18, 19, 20, 21, 22, 23, 24] (by decide +kernel) (by decide +kernel)) (goodIn_sub (fun _ h => List.mem_cons_of_mem _ (List.mem_append_right _ h)) (by decide +kernel))
set_option maxRecDepth 20000 in
theorem gL_setRates_X2_setRates : GoodIn wsL_setRates (wsV RL 17 RX2 yX2_setRates wsX2_setRates) := goodIn_app (goodIn_of _ (by decide +kernel)) ggL_setRates_X2_setRates
theorem dL_setRates_0 : decode cL_setRates 0 = .ok (.aload_n 0, 1) := by decide +kernel
theorem dL_setRates_1 : decode cL_setRates 1 = .ok (.iload_n 1, 1) := by decide +kernel
theorem dL_setRates_2 : decode cL_setRates 2 = .ok (.iload_n 2, 1) := by decide +kernel
theorem dL_setRates_3 : decode cL_setRates 3 = .ok (.iload_n 3, 1) := by decide +kernel
theorem dL_setRates_4 : decode cL_setRates 4 = .ok (.invokevirtual 17, 3) := by decide +kernel
theorem dL_setRates_7 : decode cL_setRates 7 = .ok (.goto 7, 3) := by decide +kernel
theorem dL_setRates_10 : decode cL_setRates 10 = .ok (.astore 4, 2) := by decide +kernel
theorem dL_setRates_12 : decode cL_setRates 12 = .ok (.iconst 1, 1) := by decide +kernel
theorem dL_setRates_13 : decode cL_setRates 13 = .ok (.ireturn, 1) := by decide +kernel
theorem dL_setRates_14 : decode cL_setRates 14 = .ok (.iconst 0, 1) := by decide +kernel
theorem dL_setRates_15 : decode cL_setRates 15 = .ok (.ireturn, 1) := by decide +kernel
set_option maxRecDepth 20000 in
theorem ggL_lend_X2_lend : GoodIn wsL_lend wsX2_lend := goodIn_ca (goodIn_ca (goodIn_ca (goodIn_r _ [8, 9, 10, 11, 12, 13, 14, 15, 16, 17, 18, 19, 20, 21, 22, 23, 24, 25, 26, 27, 28, 29, 30, 7, 31, 32, 33, 34, 35, 36, 37, 38, 39, 40, 41, 42, 43, 44, 45, 46, 47, 48, 49, 50, 51, 52, 53, 54, 55, 56, 57, 58, 59, 60, 61, 62, 63, 64, 65, 66] (by decide +kernel) (by decide +kernel)) (goodIn_sub (fun _ h => List.mem_cons_of_mem _ (List.mem_append_left _ (List.mem_append_left _ (List.mem_append_right _ h)))) (by decide +kernel))) (goodIn_sub (fun _ h => List.mem_cons_of_mem _ (List.mem_append_left _ (List.mem_append_right _ h))) (by decide +kernel))) (goodIn_sub (fun _ h => List.mem_cons_of_mem _ (List.mem_append_right _ h)) (by decide +kernel))
set_option maxRecDepth 20000 in
theorem gL_lend_X2_lend : GoodIn wsL_lend (wsV RL 21 RX2 yX2_lend wsX2_lend) := goodIn_app (goodIn_of _ (by decide +kernel)) ggL_lend_X2_lend
theorem dL_lend_0 : decode cL_lend 0 = .ok (.aload 7, 2) := by decide +kernel
theorem dL_lend_2 : decode cL_lend 2 = .ok (.iconst 0, 1) := by decide +kernel
theorem dL_lend_3 : decode cL_lend 3 = .ok (.aload_n 0, 1) := by decide +kernel
theorem dL_lend_4 : decode cL_lend 4 = .ok (.iload_n 1, 1) := by decide +kernel
theorem dL_lend_5 : decode cL_lend 5 = .ok (.iload_n 2, 1) := by decide +kernel
theorem dL_lend_6 : decode cL_lend 6 = .ok (.iload_n 3, 1) := by decide +kernel
theorem dL_lend_7 : decode cL_lend 7 = .ok (.iload 4, 2) := by decide +kernel
theorem dL_lend_9 : decode cL_lend 9 = .ok (.iload 5, 2) := by decide +kernel
theorem dL_lend_11 : decode cL_lend 11 = .ok (.iload 6, 2) := by decide +kernel
theorem dL_lend_13 : decode cL_lend 13 = .ok (.invokevirtual 21, 3) := by decide +kernel
theorem dL_lend_16 : decode cL_lend 16 = .ok (.i2l, 1) := by decide +kernel
theorem dL_lend_17 : decode cL_lend 17 = .ok (.lastore, 1) := by decide +kernel
theorem dL_lend_18 : decode cL_lend 18 = .ok (.goto 15, 3) := by decide +kernel
theorem dL_lend_21 : decode cL_lend 21 = .ok (.astore 8, 2) := by decide +kernel
theorem dL_lend_23 : decode cL_lend 23 = .ok (.iconst 1, 1) := by decide +kernel
theorem dL_lend_24 : decode cL_lend 24 = .ok (.ireturn, 1) := by decide +kernel
theorem dL_lend_25 : decode cL_lend 25 = .ok (.astore 8, 2) := by decide +kernel
theorem dL_lend_27 : decode cL_lend 27 = .ok (.iconst 2, 1) := by decide +kernel
theorem dL_lend_28 : decode cL_lend 28 = .ok (.ireturn, 1) := by decide +kernel
theorem dL_lend_29 : decode cL_lend 29 = .ok (.astore 8, 2) := by decide +kernel
theorem dL_lend_31 : decode cL_lend 31 = .ok (.iconst 3, 1) := by decide +kernel
theorem dL_lend_32 : decode cL_lend 32 = .ok (.ireturn, 1) := by decide +kernel
theorem dL_lend_33 : decode cL_lend 33 = .ok (.iconst 0, 1) := by decide +kernel
theorem dL_lend_34 : decode cL_lend 34 = .ok (.ireturn, 1) := by decide +kernel
set_option maxRecDepth 20000 in
theorem ggL_repay_X2_repay : GoodIn wsL_repay wsX2_repay := goodIn_ca (goodIn_ca (goodIn_r _ [7, 8, 9, 10, 11, 12, 13, 14, 6, 15, 16, 17, 18, 19, 20, 21, 22, 23, 24, 25, 26, 27, 28, 29, 30, 31, 32, 33, 34, 35, 36, 37, 38, 39, 40, 41, 42, 43, 44, 45, 46] (by decide +kernel) (by decide +kernel)) (goodIn_sub (fun _ h => List.mem_cons_of_mem _ (List.mem_append_left _ (List.mem_append_right _ h))) (by decide +kernel))) (goodIn_sub (fun _ h => List.mem_cons_of_mem _ (List.mem_append_right _ h)) (by decide +kernel))
set_option maxRecDepth 20000 in
theorem gL_repay_X2_repay : GoodIn wsL_repay (wsV RL 27 RX2 yX2_repay wsX2_repay) := goodIn_app (goodIn_of _ (by decide +kernel)) ggL_repay_X2_repay
theorem dL_repay_0 : decode cL_repay 0 = .ok (.aload_n 2, 1) := by decide +kernel
theorem dL_repay_1 : decode cL_repay 1 = .ok (.iconst 0, 1) := by decide +kernel
theorem dL_repay_2 : decode cL_repay 2 = .ok (.aload_n 0, 1) := by decide +kernel
theorem dL_repay_3 : decode cL_repay 3 = .ok (.iload_n 1, 1) := by decide +kernel
theorem dL_repay_4 : decode cL_repay 4 = .ok (.invokevirtual 27, 3) := by decide +kernel
theorem dL_repay_7 : decode cL_repay 7 = .ok (.i2l, 1) := by decide +kernel
theorem dL_repay_8 : decode cL_repay 8 = .ok (.lastore, 1) := by decide +kernel
theorem dL_repay_9 : decode cL_repay 9 = .ok (.goto 9, 3) := by decide +kernel
theorem dL_repay_12 : decode cL_repay 12 = .ok (.astore_n 3, 1) := by decide +kernel
theorem dL_repay_13 : decode cL_repay 13 = .ok (.iconst 1, 1) := by decide +kernel
theorem dL_repay_14 : decode cL_repay 14 = .ok (.ireturn, 1) := by decide +kernel
theorem dL_repay_15 : decode cL_repay 15 = .ok (.astore_n 3, 1) := by decide +kernel
theorem dL_repay_16 : decode cL_repay 16 = .ok (.iconst 2, 1) := by decide +kernel
theorem dL_repay_17 : decode cL_repay 17 = .ok (.ireturn, 1) := by decide +kernel
theorem dL_repay_18 : decode cL_repay 18 = .ok (.iconst 0, 1) := by decide +kernel
theorem dL_repay_19 : decode cL_repay 19 = .ok (.ireturn, 1) := by decide +kernel
set_option maxRecDepth 20000 in
theorem ggL_deposit_X2_deposit : GoodIn wsL_deposit wsX2_deposit := goodIn_ca (goodIn_ca (goodIn_ca (goodIn_r _ [8, 9, 10, 11, 12, 13, 14, 15, 16, 17, 18, 19, 20, 21, 22, 23, 7, 24, 25, 26, 27, 28, 29, 30, 31, 32, 33, 34, 35, 36, 37, 38, 39, 40, 41, 42, 43, 44, 45, 46, 47, 48, 49, 50, 51, 52, 53, 54, 55] (by decide +kernel) (by decide +kernel)) (goodIn_sub (fun _ h => List.mem_cons_of_mem _ (List.mem_append_left _ (List.mem_append_left _ (List.mem_append_right _ h)))) (by decide +kernel))) (goodIn_sub (fun _ h => List.mem_cons_of_mem _ (List.mem_append_left _ (List.mem_append_right _ h))) (by decide +kernel))) (goodIn_sub (fun _ h => List.mem_cons_of_mem _ (List.mem_append_right _ h)) (by decide +kernel))
set_option maxRecDepth 20000 in
theorem gL_deposit_X2_deposit : GoodIn wsL_deposit (wsV RL 31 RX2 yX2_deposit wsX2_deposit) := goodIn_app (goodIn_of _ (by decide +kernel)) ggL_deposit_X2_deposit
theorem dL_deposit_0 : decode cL_deposit 0 = .ok (.aload_n 3, 1) := by decide +kernel
theorem dL_deposit_1 : decode cL_deposit 1 = .ok (.iconst 0, 1) := by decide +kernel
theorem dL_deposit_2 : decode cL_deposit 2 = .ok (.aload_n 0, 1) := by decide +kernel
theorem dL_deposit_3 : decode cL_deposit 3 = .ok (.iload_n 1, 1) := by decide +kernel
theorem dL_deposit_4 : decode cL_deposit 4 = .ok (.iload_n 2, 1) := by decide +kernel
theorem dL_deposit_5 : decode cL_deposit 5 = .ok (.invokevirtual 31, 3) := by decide +kernel
theorem dL_deposit_8 : decode cL_deposit 8 = .ok (.i2l, 1) := by decide +kernel
theorem dL_deposit_9 : decode cL_deposit 9 = .ok (.lastore, 1) := by decide +kernel
theorem dL_deposit_10 : decode cL_deposit 10 = .ok (.goto 15, 3) := by decide +kernel
theorem dL_deposit_13 : decode cL_deposit 13 = .ok (.astore 4, 2) := by decide +kernel
theorem dL_deposit_15 : decode cL_deposit 15 = .ok (.iconst 1, 1) := by decide +kernel
theorem dL_deposit_16 : decode cL_deposit 16 = .ok (.ireturn, 1) := by decide +kernel
theorem dL_deposit_17 : decode cL_deposit 17 = .ok (.astore 4, 2) := by decide +kernel
theorem dL_deposit_19 : decode cL_deposit 19 = .ok (.iconst 2, 1) := by decide +kernel
theorem dL_deposit_20 : decode cL_deposit 20 = .ok (.ireturn, 1) := by decide +kernel
theorem dL_deposit_21 : decode cL_deposit 21 = .ok (.astore 4, 2) := by decide +kernel
theorem dL_deposit_23 : decode cL_deposit 23 = .ok (.iconst 3, 1) := by decide +kernel
theorem dL_deposit_24 : decode cL_deposit 24 = .ok (.ireturn, 1) := by decide +kernel
theorem dL_deposit_25 : decode cL_deposit 25 = .ok (.iconst 0, 1) := by decide +kernel
theorem dL_deposit_26 : decode cL_deposit 26 = .ok (.ireturn, 1) := by decide +kernel
set_option maxRecDepth 20000 in
theorem ggL_closeMonth_X2_closeMonth : GoodIn wsL_closeMonth wsX2_closeMonth := goodIn_ca (goodIn_r _ [6, 7, 8, 9, 10, 11, 12, 13, 14, 5, 15, 16, 17, 18, 19, 20, 21, 22, 23, 24, 25, 26, 27, 28, 29, 30, 31, 32, 33, 34, 35, 36, 37, 38, 39, 40, 41, 42, 43, 44, 45, 46, 47, 48, 49, 50, 51, 52, 53, 54, 55, 56, 57, 58, 59, 60, 61, 62, 63, 64, 65, 66, 67, 68, 69, 70, 71, 72, 73, 74, 75, 76, 77, 78, 79, 80, 81, 82, 83, 84, 85, 86, 87, 88, 89, 90, 91, 92, 93, 94, 95, 96, 97, 98, 99, 100, 101, 102, 103, 104, 105, 106, 107, 108, 109, 110, 111, 112, 113, 114, 115, 116] (by decide +kernel) (by decide +kernel)) (goodIn_sub (fun _ h => List.mem_cons_of_mem _ (List.mem_append_right _ h)) (by decide +kernel))
set_option maxRecDepth 20000 in
theorem gL_closeMonth_X2_closeMonth : GoodIn wsL_closeMonth (wsV RL 34 RX2 yX2_closeMonth wsX2_closeMonth) := goodIn_app (goodIn_of _ (by decide +kernel)) ggL_closeMonth_X2_closeMonth
theorem dL_closeMonth_0 : decode cL_closeMonth 0 = .ok (.aload_n 1, 1) := by decide +kernel
theorem dL_closeMonth_1 : decode cL_closeMonth 1 = .ok (.iconst 0, 1) := by decide +kernel
theorem dL_closeMonth_2 : decode cL_closeMonth 2 = .ok (.aload_n 0, 1) := by decide +kernel
theorem dL_closeMonth_3 : decode cL_closeMonth 3 = .ok (.invokevirtual 34, 3) := by decide +kernel
theorem dL_closeMonth_6 : decode cL_closeMonth 6 = .ok (.i2l, 1) := by decide +kernel
theorem dL_closeMonth_7 : decode cL_closeMonth 7 = .ok (.lastore, 1) := by decide +kernel
theorem dL_closeMonth_8 : decode cL_closeMonth 8 = .ok (.goto 6, 3) := by decide +kernel
theorem dL_closeMonth_11 : decode cL_closeMonth 11 = .ok (.astore_n 2, 1) := by decide +kernel
theorem dL_closeMonth_12 : decode cL_closeMonth 12 = .ok (.iconst 1, 1) := by decide +kernel
theorem dL_closeMonth_13 : decode cL_closeMonth 13 = .ok (.ireturn, 1) := by decide +kernel
theorem dL_closeMonth_14 : decode cL_closeMonth 14 = .ok (.iconst 0, 1) := by decide +kernel
theorem dL_closeMonth_15 : decode cL_closeMonth 15 = .ok (.ireturn, 1) := by decide +kernel
set_option maxRecDepth 20000 in
theorem ggL_left_X2_left : GoodIn wsL_left wsX2_left := goodIn_ca (goodIn_r _ [6, 7, 8, 9, 10, 11, 5, 12, 13, 14, 15, 16, 17, 18, 19, 20, 21, 22, 23, 24, 25, 26, 27, 28, 29, 30, 31, 32, 33, 34, 35, 36, 37, 38, 39, 40] (by decide +kernel) (by decide +kernel)) (goodIn_sub (fun _ h => List.mem_cons_of_mem _ (List.mem_append_right _ h)) (by decide +kernel))
set_option maxRecDepth 20000 in
theorem gL_left_X2_left : GoodIn wsL_left (wsV RL 38 RX2 yX2_left wsX2_left) := goodIn_app (goodIn_of _ (by decide +kernel)) ggL_left_X2_left
theorem dL_left_0 : decode cL_left 0 = .ok (.aload_n 2, 1) := by decide +kernel
theorem dL_left_1 : decode cL_left 1 = .ok (.iconst 0, 1) := by decide +kernel
theorem dL_left_2 : decode cL_left 2 = .ok (.aload_n 0, 1) := by decide +kernel
theorem dL_left_3 : decode cL_left 3 = .ok (.iload_n 1, 1) := by decide +kernel
theorem dL_left_4 : decode cL_left 4 = .ok (.invokevirtual 38, 3) := by decide +kernel
theorem dL_left_7 : decode cL_left 7 = .ok (.i2l, 1) := by decide +kernel
theorem dL_left_8 : decode cL_left 8 = .ok (.lastore, 1) := by decide +kernel
theorem dL_left_9 : decode cL_left 9 = .ok (.goto 6, 3) := by decide +kernel
theorem dL_left_12 : decode cL_left 12 = .ok (.astore_n 3, 1) := by decide +kernel
theorem dL_left_13 : decode cL_left 13 = .ok (.iconst 1, 1) := by decide +kernel
theorem dL_left_14 : decode cL_left 14 = .ok (.ireturn, 1) := by decide +kernel
theorem dL_left_15 : decode cL_left 15 = .ok (.iconst 0, 1) := by decide +kernel
theorem dL_left_16 : decode cL_left 16 = .ok (.ireturn, 1) := by decide +kernel
set_option maxRecDepth 20000 in
theorem ggL_bears_X2_bears : GoodIn wsL_bears wsX2_bears := goodIn_ca (goodIn_ca (goodIn_r _ [7, 8, 9, 10, 11, 12, 13, 14, 6, 15, 16, 17, 18, 19, 20, 21, 22, 23, 24, 25, 26, 27, 28, 29, 30, 31, 32, 33, 34, 35, 36, 37, 38, 39, 40, 41, 42, 43, 44, 45, 46, 47, 48, 49, 50, 51, 52, 53, 54, 55, 56, 57, 58, 59, 60, 61, 62, 63, 64, 65] (by decide +kernel) (by decide +kernel)) (goodIn_sub (fun _ h => List.mem_cons_of_mem _ (List.mem_append_left _ (List.mem_append_right _ h))) (by decide +kernel))) (goodIn_sub (fun _ h => List.mem_cons_of_mem _ (List.mem_append_right _ h)) (by decide +kernel))
set_option maxRecDepth 20000 in
theorem gL_bears_X2_bears : GoodIn wsL_bears (wsV RL 41 RX2 yX2_bears wsX2_bears) := goodIn_app (goodIn_of _ (by decide +kernel)) ggL_bears_X2_bears
theorem dL_bears_0 : decode cL_bears 0 = .ok (.aload_n 3, 1) := by decide +kernel
theorem dL_bears_1 : decode cL_bears 1 = .ok (.iconst 0, 1) := by decide +kernel
theorem dL_bears_2 : decode cL_bears 2 = .ok (.aload_n 0, 1) := by decide +kernel
theorem dL_bears_3 : decode cL_bears 3 = .ok (.iload_n 1, 1) := by decide +kernel
theorem dL_bears_4 : decode cL_bears 4 = .ok (.iload_n 2, 1) := by decide +kernel
theorem dL_bears_5 : decode cL_bears 5 = .ok (.invokevirtual 41, 3) := by decide +kernel
theorem dL_bears_8 : decode cL_bears 8 = .ok (.i2l, 1) := by decide +kernel
theorem dL_bears_9 : decode cL_bears 9 = .ok (.lastore, 1) := by decide +kernel
theorem dL_bears_10 : decode cL_bears 10 = .ok (.goto 11, 3) := by decide +kernel
theorem dL_bears_13 : decode cL_bears 13 = .ok (.astore 4, 2) := by decide +kernel
theorem dL_bears_15 : decode cL_bears 15 = .ok (.iconst 1, 1) := by decide +kernel
theorem dL_bears_16 : decode cL_bears 16 = .ok (.ireturn, 1) := by decide +kernel
theorem dL_bears_17 : decode cL_bears 17 = .ok (.astore 4, 2) := by decide +kernel
theorem dL_bears_19 : decode cL_bears 19 = .ok (.iconst 2, 1) := by decide +kernel
theorem dL_bears_20 : decode cL_bears 20 = .ok (.ireturn, 1) := by decide +kernel
theorem dL_bears_21 : decode cL_bears 21 = .ok (.iconst 0, 1) := by decide +kernel
theorem dL_bears_22 : decode cL_bears 22 = .ok (.ireturn, 1) := by decide +kernel
set_option maxRecDepth 20000 in
theorem ggL_due_X2_due : GoodIn wsL_due wsX2_due := goodIn_ca (goodIn_r _ [6, 7, 8, 9, 10, 11, 12, 13, 14, 15, 16, 17, 18, 19, 20, 21, 22, 23, 24, 25, 26, 27, 28, 29, 30, 31, 32, 33, 34, 35, 36] (by decide +kernel) (by decide +kernel)) (goodIn_sub (fun _ h => List.mem_cons_of_mem _ (List.mem_append_right _ h)) (by decide +kernel))
set_option maxRecDepth 20000 in
theorem gL_due_X2_due : GoodIn wsL_due (wsV RL 44 RX2 yX2_due wsX2_due) := goodIn_app (goodIn_of _ (by decide +kernel)) ggL_due_X2_due
theorem dL_due_0 : decode cL_due 0 = .ok (.aload_n 2, 1) := by decide +kernel
theorem dL_due_1 : decode cL_due 1 = .ok (.iconst 0, 1) := by decide +kernel
theorem dL_due_2 : decode cL_due 2 = .ok (.aload_n 0, 1) := by decide +kernel
theorem dL_due_3 : decode cL_due 3 = .ok (.iload_n 1, 1) := by decide +kernel
theorem dL_due_4 : decode cL_due 4 = .ok (.invokevirtual 44, 3) := by decide +kernel
theorem dL_due_7 : decode cL_due 7 = .ok (.i2l, 1) := by decide +kernel
theorem dL_due_8 : decode cL_due 8 = .ok (.lastore, 1) := by decide +kernel
theorem dL_due_9 : decode cL_due 9 = .ok (.goto 6, 3) := by decide +kernel
theorem dL_due_12 : decode cL_due 12 = .ok (.astore_n 3, 1) := by decide +kernel
theorem dL_due_13 : decode cL_due 13 = .ok (.iconst 1, 1) := by decide +kernel
theorem dL_due_14 : decode cL_due 14 = .ok (.ireturn, 1) := by decide +kernel
theorem dL_due_15 : decode cL_due 15 = .ok (.iconst 0, 1) := by decide +kernel
theorem dL_due_16 : decode cL_due 16 = .ok (.ireturn, 1) := by decide +kernel
set_option maxRecDepth 20000 in
theorem ggL_balance_X2_balance : GoodIn wsL_balance wsX2_balance := goodIn_ca (goodIn_r _ [6, 7, 8, 9, 10, 11, 12, 13, 14, 15, 16, 17, 18, 19, 20, 21, 22] (by decide +kernel) (by decide +kernel)) (goodIn_sub (fun _ h => List.mem_cons_of_mem _ (List.mem_append_right _ h)) (by decide +kernel))
set_option maxRecDepth 20000 in
theorem gL_balance_X2_balance : GoodIn wsL_balance (wsV RL 47 RX2 yX2_balance wsX2_balance) := goodIn_app (goodIn_of _ (by decide +kernel)) ggL_balance_X2_balance
theorem dL_balance_0 : decode cL_balance 0 = .ok (.aload_n 2, 1) := by decide +kernel
theorem dL_balance_1 : decode cL_balance 1 = .ok (.iconst 0, 1) := by decide +kernel
theorem dL_balance_2 : decode cL_balance 2 = .ok (.aload_n 0, 1) := by decide +kernel
theorem dL_balance_3 : decode cL_balance 3 = .ok (.iload_n 1, 1) := by decide +kernel
theorem dL_balance_4 : decode cL_balance 4 = .ok (.invokevirtual 47, 3) := by decide +kernel
theorem dL_balance_7 : decode cL_balance 7 = .ok (.i2l, 1) := by decide +kernel
theorem dL_balance_8 : decode cL_balance 8 = .ok (.lastore, 1) := by decide +kernel
theorem dL_balance_9 : decode cL_balance 9 = .ok (.goto 6, 3) := by decide +kernel
theorem dL_balance_12 : decode cL_balance 12 = .ok (.astore_n 3, 1) := by decide +kernel
theorem dL_balance_13 : decode cL_balance 13 = .ok (.iconst 1, 1) := by decide +kernel
theorem dL_balance_14 : decode cL_balance 14 = .ok (.ireturn, 1) := by decide +kernel
theorem dL_balance_15 : decode cL_balance 15 = .ok (.iconst 0, 1) := by decide +kernel
theorem dL_balance_16 : decode cL_balance 16 = .ok (.ireturn, 1) := by decide +kernel
set_option maxRecDepth 20000 in
theorem ggL_tranche_X2_tranche : GoodIn wsL_tranche wsX2_tranche := goodIn_ca (goodIn_r _ [6, 7, 8, 9, 10, 11, 12, 13, 14, 15, 16, 17, 18, 19, 20, 21, 22, 23, 24] (by decide +kernel) (by decide +kernel)) (goodIn_sub (fun _ h => List.mem_cons_of_mem _ (List.mem_append_right _ h)) (by decide +kernel))
set_option maxRecDepth 20000 in
theorem gL_tranche_X2_tranche : GoodIn wsL_tranche (wsV RL 50 RX2 yX2_tranche wsX2_tranche) := goodIn_app (goodIn_of _ (by decide +kernel)) ggL_tranche_X2_tranche
theorem dL_tranche_0 : decode cL_tranche 0 = .ok (.aload_n 2, 1) := by decide +kernel
theorem dL_tranche_1 : decode cL_tranche 1 = .ok (.iconst 0, 1) := by decide +kernel
theorem dL_tranche_2 : decode cL_tranche 2 = .ok (.aload_n 0, 1) := by decide +kernel
theorem dL_tranche_3 : decode cL_tranche 3 = .ok (.iload_n 1, 1) := by decide +kernel
theorem dL_tranche_4 : decode cL_tranche 4 = .ok (.invokevirtual 50, 3) := by decide +kernel
theorem dL_tranche_7 : decode cL_tranche 7 = .ok (.i2l, 1) := by decide +kernel
theorem dL_tranche_8 : decode cL_tranche 8 = .ok (.lastore, 1) := by decide +kernel
theorem dL_tranche_9 : decode cL_tranche 9 = .ok (.goto 6, 3) := by decide +kernel
theorem dL_tranche_12 : decode cL_tranche 12 = .ok (.astore_n 3, 1) := by decide +kernel
theorem dL_tranche_13 : decode cL_tranche 13 = .ok (.iconst 1, 1) := by decide +kernel
theorem dL_tranche_14 : decode cL_tranche 14 = .ok (.ireturn, 1) := by decide +kernel
theorem dL_tranche_15 : decode cL_tranche 15 = .ok (.iconst 0, 1) := by decide +kernel
theorem dL_tranche_16 : decode cL_tranche 16 = .ok (.ireturn, 1) := by decide +kernel
set_option maxRecDepth 20000 in
theorem ggL_margin_X2_margin : GoodIn wsL_margin wsX2_margin := goodIn_ca (goodIn_r _ [6, 7, 8, 9, 10, 11, 12, 5, 13, 14, 15, 16, 17, 18, 19, 20, 21, 22, 23, 24, 25, 26, 27] (by decide +kernel) (by decide +kernel)) (goodIn_sub (fun _ h => List.mem_cons_of_mem _ (List.mem_append_right _ h)) (by decide +kernel))
set_option maxRecDepth 20000 in
theorem gL_margin_X2_margin : GoodIn wsL_margin (wsV RL 53 RX2 yX2_margin wsX2_margin) := goodIn_app (goodIn_of _ (by decide +kernel)) ggL_margin_X2_margin
theorem dL_margin_0 : decode cL_margin 0 = .ok (.aload_n 3, 1) := by decide +kernel
theorem dL_margin_1 : decode cL_margin 1 = .ok (.iconst 0, 1) := by decide +kernel
theorem dL_margin_2 : decode cL_margin 2 = .ok (.aload_n 0, 1) := by decide +kernel
theorem dL_margin_3 : decode cL_margin 3 = .ok (.iload_n 1, 1) := by decide +kernel
theorem dL_margin_4 : decode cL_margin 4 = .ok (.iload_n 2, 1) := by decide +kernel
theorem dL_margin_5 : decode cL_margin 5 = .ok (.invokevirtual 53, 3) := by decide +kernel
theorem dL_margin_8 : decode cL_margin 8 = .ok (.i2l, 1) := by decide +kernel
theorem dL_margin_9 : decode cL_margin 9 = .ok (.lastore, 1) := by decide +kernel
theorem dL_margin_10 : decode cL_margin 10 = .ok (.goto 7, 3) := by decide +kernel
theorem dL_margin_13 : decode cL_margin 13 = .ok (.astore 4, 2) := by decide +kernel
theorem dL_margin_15 : decode cL_margin 15 = .ok (.iconst 1, 1) := by decide +kernel
theorem dL_margin_16 : decode cL_margin 16 = .ok (.ireturn, 1) := by decide +kernel
theorem dL_margin_17 : decode cL_margin 17 = .ok (.iconst 0, 1) := by decide +kernel
theorem dL_margin_18 : decode cL_margin 18 = .ok (.ireturn, 1) := by decide +kernel
set_option maxRecDepth 20000 in
theorem ggL_byProduct_X2_byProduct : GoodIn wsL_byProduct wsX2_byProduct := goodIn_ca (goodIn_r _ [6, 7, 8, 9, 10, 11, 12, 5, 13, 14, 15, 16, 17, 18, 19, 20, 21, 22, 23, 24, 25, 26, 27] (by decide +kernel) (by decide +kernel)) (goodIn_sub (fun _ h => List.mem_cons_of_mem _ (List.mem_append_right _ h)) (by decide +kernel))
set_option maxRecDepth 20000 in
theorem gL_byProduct_X2_byProduct : GoodIn wsL_byProduct (wsV RL 56 RX2 yX2_byProduct wsX2_byProduct) := goodIn_app (goodIn_of _ (by decide +kernel)) ggL_byProduct_X2_byProduct
theorem dL_byProduct_0 : decode cL_byProduct 0 = .ok (.aload_n 3, 1) := by decide +kernel
theorem dL_byProduct_1 : decode cL_byProduct 1 = .ok (.iconst 0, 1) := by decide +kernel
theorem dL_byProduct_2 : decode cL_byProduct 2 = .ok (.aload_n 0, 1) := by decide +kernel
theorem dL_byProduct_3 : decode cL_byProduct 3 = .ok (.iload_n 1, 1) := by decide +kernel
theorem dL_byProduct_4 : decode cL_byProduct 4 = .ok (.iload_n 2, 1) := by decide +kernel
theorem dL_byProduct_5 : decode cL_byProduct 5 = .ok (.invokevirtual 56, 3) := by decide +kernel
theorem dL_byProduct_8 : decode cL_byProduct 8 = .ok (.i2l, 1) := by decide +kernel
theorem dL_byProduct_9 : decode cL_byProduct 9 = .ok (.lastore, 1) := by decide +kernel
theorem dL_byProduct_10 : decode cL_byProduct 10 = .ok (.goto 7, 3) := by decide +kernel
theorem dL_byProduct_13 : decode cL_byProduct 13 = .ok (.astore 4, 2) := by decide +kernel
theorem dL_byProduct_15 : decode cL_byProduct 15 = .ok (.iconst 1, 1) := by decide +kernel
theorem dL_byProduct_16 : decode cL_byProduct 16 = .ok (.ireturn, 1) := by decide +kernel
theorem dL_byProduct_17 : decode cL_byProduct 17 = .ok (.iconst 0, 1) := by decide +kernel
theorem dL_byProduct_18 : decode cL_byProduct 18 = .ok (.ireturn, 1) := by decide +kernel
set_option maxRecDepth 20000 in
theorem ggL_treasury_X2_treasury : GoodIn wsL_treasury wsX2_treasury := goodIn_ca (goodIn_r _ [6, 7, 8, 9, 10, 11, 12, 5, 13, 14, 15, 16, 17, 18, 19, 20, 21, 22, 23, 24, 25, 26, 27] (by decide +kernel) (by decide +kernel)) (goodIn_sub (fun _ h => List.mem_cons_of_mem _ (List.mem_append_right _ h)) (by decide +kernel))
set_option maxRecDepth 20000 in
theorem gL_treasury_X2_treasury : GoodIn wsL_treasury (wsV RL 59 RX2 yX2_treasury wsX2_treasury) := goodIn_app (goodIn_of _ (by decide +kernel)) ggL_treasury_X2_treasury
theorem dL_treasury_0 : decode cL_treasury 0 = .ok (.aload_n 2, 1) := by decide +kernel
theorem dL_treasury_1 : decode cL_treasury 1 = .ok (.iconst 0, 1) := by decide +kernel
theorem dL_treasury_2 : decode cL_treasury 2 = .ok (.aload_n 0, 1) := by decide +kernel
theorem dL_treasury_3 : decode cL_treasury 3 = .ok (.iload_n 1, 1) := by decide +kernel
theorem dL_treasury_4 : decode cL_treasury 4 = .ok (.invokevirtual 59, 3) := by decide +kernel
theorem dL_treasury_7 : decode cL_treasury 7 = .ok (.i2l, 1) := by decide +kernel
theorem dL_treasury_8 : decode cL_treasury 8 = .ok (.lastore, 1) := by decide +kernel
theorem dL_treasury_9 : decode cL_treasury 9 = .ok (.goto 6, 3) := by decide +kernel
theorem dL_treasury_12 : decode cL_treasury 12 = .ok (.astore_n 3, 1) := by decide +kernel
theorem dL_treasury_13 : decode cL_treasury 13 = .ok (.iconst 1, 1) := by decide +kernel
theorem dL_treasury_14 : decode cL_treasury 14 = .ok (.ireturn, 1) := by decide +kernel
theorem dL_treasury_15 : decode cL_treasury 15 = .ok (.iconst 0, 1) := by decide +kernel
theorem dL_treasury_16 : decode cL_treasury 16 = .ok (.ireturn, 1) := by decide +kernel
set_option maxRecDepth 20000 in
theorem ggL_interest_X2_interest : GoodIn wsL_interest wsX2_interest := goodIn_ca (goodIn_r _ [6, 7, 8, 9, 10, 11, 12, 5, 13, 14, 15, 16, 17, 18, 19, 20, 21, 22, 23, 24, 25, 26, 27] (by decide +kernel) (by decide +kernel)) (goodIn_sub (fun _ h => List.mem_cons_of_mem _ (List.mem_append_right _ h)) (by decide +kernel))
set_option maxRecDepth 20000 in
theorem gL_interest_X2_interest : GoodIn wsL_interest (wsV RL 62 RX2 yX2_interest wsX2_interest) := goodIn_app (goodIn_of _ (by decide +kernel)) ggL_interest_X2_interest
theorem dL_interest_0 : decode cL_interest 0 = .ok (.aload_n 2, 1) := by decide +kernel
theorem dL_interest_1 : decode cL_interest 1 = .ok (.iconst 0, 1) := by decide +kernel
theorem dL_interest_2 : decode cL_interest 2 = .ok (.aload_n 0, 1) := by decide +kernel
theorem dL_interest_3 : decode cL_interest 3 = .ok (.iload_n 1, 1) := by decide +kernel
theorem dL_interest_4 : decode cL_interest 4 = .ok (.invokevirtual 62, 3) := by decide +kernel
theorem dL_interest_7 : decode cL_interest 7 = .ok (.i2l, 1) := by decide +kernel
theorem dL_interest_8 : decode cL_interest 8 = .ok (.lastore, 1) := by decide +kernel
theorem dL_interest_9 : decode cL_interest 9 = .ok (.goto 6, 3) := by decide +kernel
theorem dL_interest_12 : decode cL_interest 12 = .ok (.astore_n 3, 1) := by decide +kernel
theorem dL_interest_13 : decode cL_interest 13 = .ok (.iconst 1, 1) := by decide +kernel
theorem dL_interest_14 : decode cL_interest 14 = .ok (.ireturn, 1) := by decide +kernel
theorem dL_interest_15 : decode cL_interest 15 = .ok (.iconst 0, 1) := by decide +kernel
theorem dL_interest_16 : decode cL_interest 16 = .ok (.ireturn, 1) := by decide +kernel
end
section
set_option maxRecDepth 20000 in
theorem ggL_law_X2_init : GoodIn wsL_law wsX2_init := goodIn_r _ [9, 10, 11, 12, 13, 14, 15, 16, 17, 18, 19, 20, 21, 22, 23, 24, 25, 26, 27, 28, 29, 30, 31, 32, 33, 34, 35, 36, 424, 425, 426, 427, 428, 429, 430, 431, 432, 433, 434, 435, 436, 459, 460] (by decide +kernel) (by decide +kernel)
set_option maxRecDepth 20000 in
theorem gL_law_X2_init : GoodIn wsL_law (wsX2_init) := ggL_law_X2_init
set_option maxRecDepth 20000 in
theorem ggL_law_X3_init : GoodIn wsL_law wsX3_init := goodIn_r _ [39, 40, 11, 12, 13, 41, 42, 43, 44, 45, 46, 47, 48, 49, 50, 51, 52, 53, 54, 55, 56, 57, 58, 437, 438, 439, 440, 441, 442, 443, 444, 445, 446, 447, 448, 449, 450, 451, 452, 453, 454, 455, 456, 457, 458] (by decide +kernel) (by decide +kernel)
set_option maxRecDepth 20000 in
theorem gL_law_X3_init : GoodIn wsL_law (wsX3_init) := ggL_law_X3_init
set_option maxRecDepth 20000 in
theorem ggL_law_L_setCurve : GoodIn wsL_law wsL_setCurve := goodIn_ca (goodIn_ca (goodIn_r _ [62, 63, 64, 65, 66, 67, 2, 68, 69, 70, 71, 72, 14, 424, 425, 426, 427, 428, 429, 430, 431, 432, 433, 434, 435, 436] (by decide +kernel) (by decide +kernel)) (goodIn_sub (fun _ h => List.mem_append_left _ (List.mem_append_left _ (List.mem_append_right _ h))) (by decide +kernel))) (goodIn_sub (fun _ h => List.mem_append_left _ (List.mem_append_right _ h)) (by decide +kernel))
set_option maxRecDepth 20000 in
theorem gL_law_L_setCurve : GoodIn wsL_law (va_wsS RL 69 yL_setCurve wsL_setCurve) := goodIn_app (goodIn_of _ (by decide +kernel)) ggL_law_L_setCurve
set_option maxRecDepth 20000 in
theorem ggL_law_X3_setCurve : GoodIn wsL_law wsX3_setCurve := goodIn_r _ [76, 77, 41, 78, 79, 5, 80, 81, 82, 83, 84, 437, 438, 439, 440, 441, 442, 443, 444, 445, 446, 447, 448, 449, 450, 451, 452, 453, 454, 455, 456, 457, 458] (by decide +kernel) (by decide +kernel)
set_option maxRecDepth 20000 in
theorem gL_law_X3_setCurve : GoodIn wsL_law (wsV RL 74 RX3 yX3_setCurve wsX3_setCurve) := goodIn_app (goodIn_of _ (by decide +kernel)) ggL_law_X3_setCurve
set_option maxRecDepth 20000 in
theorem ggL_law_X3_thrown : GoodIn wsL_law wsX3_thrown := goodIn_r _ [88, 77, 437, 438, 439, 440, 441, 442, 443, 444, 445, 446, 447, 448, 449, 450, 451, 452, 453, 454, 455, 456, 457, 458] (by decide +kernel) (by decide +kernel)
set_option maxRecDepth 20000 in
theorem gL_law_X3_thrown : GoodIn wsL_law (wsV RL 75 RX3 yX3_thrown wsX3_thrown) := goodIn_app (goodIn_of _ (by decide +kernel)) ggL_law_X3_thrown
set_option maxRecDepth 20000 in
theorem ggL_law_L_setRates : GoodIn wsL_law wsL_setRates := goodIn_ca (goodIn_r _ [91, 64, 92, 93, 94, 2, 95, 71, 72, 15, 16, 17, 424, 425, 426, 427, 428, 429, 430, 431, 432, 433, 434, 435, 436] (by decide +kernel) (by decide +kernel)) (goodIn_sub (fun _ h => List.mem_append_left _ (List.mem_append_right _ h)) (by decide +kernel))
set_option maxRecDepth 20000 in
theorem gL_law_L_setRates : GoodIn wsL_law (va_wsS RL 78 yL_setRates wsL_setRates) := goodIn_app (goodIn_of _ (by decide +kernel)) ggL_law_L_setRates
set_option maxRecDepth 20000 in
theorem ggL_law_X3_setRates : GoodIn wsL_law wsX3_setRates := goodIn_r _ [99, 77, 100, 101, 42, 78, 79, 5, 80, 437, 438, 439, 440, 441, 442, 443, 444, 445, 446, 447, 448, 449, 450, 451, 452, 453, 454, 455, 456, 457, 458] (by decide +kernel) (by decide +kernel)
set_option maxRecDepth 20000 in
theorem gL_law_X3_setRates : GoodIn wsL_law (wsV RL 81 RX3 yX3_setRates wsX3_setRates) := goodIn_app (goodIn_of _ (by decide +kernel)) ggL_law_X3_setRates
set_option maxRecDepth 20000 in
theorem ggL_law_L_lend : GoodIn wsL_law wsL_lend := goodIn_ca (goodIn_ca (goodIn_ca (goodIn_r _ [104, 63, 64, 105, 106, 107, 108, 2, 109, 69, 70, 71, 72, 110, 111, 112, 21, 16, 20, 19, 113, 114, 14, 115, 116, 117, 118, 119, 120, 121, 122, 123, 13, 124, 125, 126, 11, 12, 127, 128, 129, 130, 131, 132, 133, 134, 424, 425, 426, 427, 428, 429, 430, 431, 432, 433, 434, 435, 436, 461, 462, 463, 464, 465, 466, 467, 468] (by decide +kernel) (by decide +kernel)) (goodIn_sub (fun _ h => List.mem_append_left _ (List.mem_append_left _ (List.mem_append_right _ h))) (by decide +kernel))) (goodIn_sub (fun _ h => List.mem_append_left _ (List.mem_append_right _ h)) (by decide +kernel))) (goodIn_sub (fun _ h => List.mem_append_right _ h) (by decide +kernel))
set_option maxRecDepth 20000 in
theorem gL_law_L_lend : GoodIn wsL_law (va_wsS RL 82 yL_lend wsL_lend) := goodIn_app (goodIn_of _ (by decide +kernel)) ggL_law_L_lend
set_option maxRecDepth 20000 in
theorem ggL_law_X3_lend : GoodIn wsL_law wsX3_lend := goodIn_r _ [138, 77, 139, 140, 43, 44, 45, 46, 101, 48, 49, 141, 50, 51, 41, 142, 143, 5, 144, 78, 79, 80, 81, 82, 83, 84, 437, 438, 439, 440, 441, 442, 443, 444, 445, 446, 447, 448, 449, 450, 451, 452, 453, 454, 455, 456, 457, 458] (by decide +kernel) (by decide +kernel)
set_option maxRecDepth 20000 in
theorem gL_law_X3_lend : GoodIn wsL_law (wsV RL 85 RX3 yX3_lend wsX3_lend) := goodIn_app (goodIn_of _ (by decide +kernel)) ggL_law_X3_lend
set_option maxRecDepth 20000 in
theorem ggL_law_L_repay : GoodIn wsL_law wsL_repay := goodIn_ca (goodIn_ca (goodIn_r _ [147, 63, 105, 148, 149, 150, 2, 151, 69, 70, 110, 111, 152, 153, 154, 155, 20, 156, 114, 157, 158, 134, 132, 159, 160, 161, 461, 462, 463, 464, 465, 466, 467, 468, 424, 425, 426, 427, 428, 429, 430, 431, 432, 433, 434, 435, 436] (by decide +kernel) (by decide +kernel)) (goodIn_sub (fun _ h => List.mem_append_left _ (List.mem_append_left _ (List.mem_append_right _ h))) (by decide +kernel))) (goodIn_sub (fun _ h => List.mem_append_right _ h) (by decide +kernel))
set_option maxRecDepth 20000 in
theorem gL_law_L_repay : GoodIn wsL_law (va_wsS RL 86 yL_repay wsL_repay) := goodIn_app (goodIn_of _ (by decide +kernel)) ggL_law_L_repay
set_option maxRecDepth 20000 in
theorem ggL_law_X3_repay : GoodIn wsL_law wsX3_repay := goodIn_r _ [165, 77, 48, 50, 166, 167, 168, 5, 169, 140, 78, 79, 80, 81, 82, 83, 84, 170, 171, 172, 173, 437, 438, 439, 440, 441, 442, 443, 444, 445, 446, 447, 448, 449, 450, 451, 452, 453, 454, 455, 456, 457, 458] (by decide +kernel) (by decide +kernel)
set_option maxRecDepth 20000 in
theorem gL_law_X3_repay : GoodIn wsL_law (wsV RL 89 RX3 yX3_repay wsX3_repay) := goodIn_app (goodIn_of _ (by decide +kernel)) ggL_law_X3_repay
set_option maxRecDepth 20000 in
theorem ggL_law_L_deposit : GoodIn wsL_law wsL_deposit := goodIn_ca (goodIn_ca (goodIn_ca (goodIn_r _ [176, 63, 64, 105, 177, 178, 179, 2, 180, 69, 70, 71, 72, 110, 111, 181, 112, 22, 18, 26, 14, 182, 183, 184, 185, 186, 187, 188, 189, 17, 190, 191, 25, 192, 193, 194, 195, 196, 197, 35, 36, 424, 425, 426, 427, 428, 429, 430, 431, 432, 433, 434, 435, 436, 459, 460] (by decide +kernel) (by decide +kernel)) (goodIn_sub (fun _ h => List.mem_append_left _ (List.mem_append_left _ (List.mem_append_right _ h))) (by decide +kernel))) (goodIn_sub (fun _ h => List.mem_append_left _ (List.mem_append_right _ h)) (by decide +kernel))) (goodIn_sub (fun _ h => List.mem_append_right _ h) (by decide +kernel))
set_option maxRecDepth 20000 in
theorem gL_law_L_deposit : GoodIn wsL_law (va_wsS RL 90 yL_deposit wsL_deposit) := goodIn_app (goodIn_of _ (by decide +kernel)) ggL_law_L_deposit
set_option maxRecDepth 20000 in
theorem ggL_law_X3_deposit : GoodIn wsL_law wsX3_deposit := goodIn_r _ [201, 77, 202, 139, 52, 141, 142, 143, 5, 144, 78, 79, 80, 81, 82, 83, 84, 203, 204, 205, 206, 53, 54, 41, 207, 208, 209, 210, 42, 211, 437, 438, 439, 440, 441, 442, 443, 444, 445, 446, 447, 448, 449, 450, 451, 452, 453, 454, 455, 456, 457, 458] (by decide +kernel) (by decide +kernel)
set_option maxRecDepth 20000 in
theorem gL_law_X3_deposit : GoodIn wsL_law (wsV RL 92 RX3 yX3_deposit wsX3_deposit) := goodIn_app (goodIn_of _ (by decide +kernel)) ggL_law_X3_deposit
set_option maxRecDepth 20000 in
theorem ggL_law_L_closeMonth : GoodIn wsL_law wsL_closeMonth := goodIn_ca (goodIn_r _ [214, 105, 215, 216, 217, 2, 218, 110, 111, 18, 26, 14, 219, 220, 221, 222, 28, 29, 20, 30, 31, 223, 224, 225, 226, 227, 114, 228, 229, 230, 231, 232, 233, 129, 234, 156, 157, 158, 134, 132, 235, 236, 237, 238, 239, 240, 241, 133, 242, 243, 244, 245, 131, 246, 247, 248, 249, 250, 251, 252, 253, 22, 15, 254, 25, 255, 256, 35, 36, 257, 258, 259, 260, 186, 187, 188, 189, 17, 190, 261, 262, 263, 264, 265, 266, 267, 268, 182, 183, 184, 185, 195, 196, 197, 424, 425, 426, 427, 428, 429, 430, 431, 432, 433, 434, 435, 436, 461, 462, 463, 464, 465, 466, 467, 468, 459, 460] (by decide +kernel) (by decide +kernel)) (goodIn_sub (fun _ h => List.mem_append_right _ h) (by decide +kernel))
set_option maxRecDepth 20000 in
theorem gL_law_L_closeMonth : GoodIn wsL_law (va_wsS RL 93 yL_closeMonth wsL_closeMonth) := goodIn_app (goodIn_of _ (by decide +kernel)) ggL_law_L_closeMonth
set_option maxRecDepth 20000 in
theorem ggL_law_X3_closeMonth : GoodIn wsL_law wsX3_closeMonth := goodIn_r _ [272, 77, 141, 140, 55, 43, 56, 44, 57, 58, 49, 50, 81, 82, 83, 5, 84, 273, 274, 275, 276, 51, 45, 277, 48, 46, 170, 171, 172, 173, 278, 279, 280, 281, 52, 42, 211, 41, 282, 283, 284, 285, 53, 54, 286, 287, 288, 289, 100, 203, 204, 205, 206, 207, 208, 209, 210, 437, 438, 439, 440, 441, 442, 443, 444, 445, 446, 447, 448, 449, 450, 451, 452, 453, 454, 455, 456, 457, 458] (by decide +kernel) (by decide +kernel)
set_option maxRecDepth 20000 in
theorem gL_law_X3_closeMonth : GoodIn wsL_law (wsV RL 96 RX3 yX3_closeMonth wsX3_closeMonth) := goodIn_app (goodIn_of _ (by decide +kernel)) ggL_law_X3_closeMonth
set_option maxRecDepth 20000 in
theorem ggL_law_X2_month : GoodIn wsL_law wsX2_month := goodIn_r _ [293, 18, 424, 425, 426, 427, 428, 429, 430, 431, 432, 433, 434, 435, 436] (by decide +kernel) (by decide +kernel)
set_option maxRecDepth 20000 in
theorem gL_law_X2_month : GoodIn wsL_law (wsV RL 97 RX2 yX2_month wsX2_month) := goodIn_app (goodIn_of _ (by decide +kernel)) ggL_law_X2_month
set_option maxRecDepth 20000 in
theorem ggL_law_X3_month : GoodIn wsL_law wsX3_month := goodIn_r _ [297, 77, 141, 437, 438, 439, 440, 441, 442, 443, 444, 445, 446, 447, 448, 449, 450, 451, 452, 453, 454, 455, 456, 457, 458] (by decide +kernel) (by decide +kernel)
set_option maxRecDepth 20000 in
theorem gL_law_X3_month : GoodIn wsL_law (wsV RL 100 RX3 yX3_month wsX3_month) := goodIn_app (goodIn_of _ (by decide +kernel)) ggL_law_X3_month
set_option maxRecDepth 20000 in
theorem ggL_law_X2_loans : GoodIn wsL_law wsX2_loans := goodIn_r _ [301, 21, 424, 425, 426, 427, 428, 429, 430, 431, 432, 433, 434, 435, 436] (by decide +kernel) (by decide +kernel)
set_option maxRecDepth 20000 in
theorem gL_law_X2_loans : GoodIn wsL_law (wsV RL 101 RX2 yX2_loans wsX2_loans) := goodIn_app (goodIn_of _ (by decide +kernel)) ggL_law_X2_loans
set_option maxRecDepth 20000 in
theorem ggL_law_X3_loans : GoodIn wsL_law wsX3_loans := goodIn_r _ [305, 77, 140, 437, 438, 439, 440, 441, 442, 443, 444, 445, 446, 447, 448, 449, 450, 451, 452, 453, 454, 455, 456, 457, 458] (by decide +kernel) (by decide +kernel)
set_option maxRecDepth 20000 in
theorem gL_law_X3_loans : GoodIn wsL_law (wsV RL 104 RX3 yX3_loans wsX3_loans) := goodIn_app (goodIn_of _ (by decide +kernel)) ggL_law_X3_loans
set_option maxRecDepth 20000 in
theorem ggL_law_L_left : GoodIn wsL_law wsL_left := goodIn_ca (goodIn_r _ [308, 63, 309, 310, 311, 2, 312, 69, 70, 152, 153, 154, 155, 20, 156, 114, 157, 158, 134, 132, 424, 425, 426, 427, 428, 429, 430, 431, 432, 433, 434, 435, 436, 461, 462, 463, 464, 465, 466, 467, 468] (by decide +kernel) (by decide +kernel)) (goodIn_sub (fun _ h => List.mem_append_left _ (List.mem_append_left _ (List.mem_append_right _ h))) (by decide +kernel))
set_option maxRecDepth 20000 in
theorem gL_law_L_left : GoodIn wsL_law (va_wsS RL 105 yL_left wsL_left) := goodIn_app (goodIn_of _ (by decide +kernel)) ggL_law_L_left
set_option maxRecDepth 20000 in
theorem ggL_law_X3_left : GoodIn wsL_law wsX3_left := goodIn_r _ [316, 77, 166, 167, 168, 5, 169, 140, 78, 79, 80, 170, 171, 172, 173, 50, 81, 82, 83, 84, 437, 438, 439, 440, 441, 442, 443, 444, 445, 446, 447, 448, 449, 450, 451, 452, 453, 454, 455, 456, 457, 458] (by decide +kernel) (by decide +kernel)
set_option maxRecDepth 20000 in
theorem gL_law_X3_left : GoodIn wsL_law (wsV RL 107 RX3 yX3_left wsX3_left) := goodIn_app (goodIn_of _ (by decide +kernel)) ggL_law_X3_left
set_option maxRecDepth 20000 in
theorem ggL_law_L_bears : GoodIn wsL_law wsL_bears := goodIn_ca (goodIn_ca (goodIn_r _ [319, 63, 64, 320, 321, 322, 2, 323, 69, 70, 71, 72, 152, 153, 154, 155, 20, 231, 114, 232, 233, 129, 234, 156, 157, 158, 134, 132, 235, 236, 237, 239, 240, 241, 133, 243, 244, 245, 131, 227, 228, 229, 230, 238, 242, 424, 425, 426, 427, 428, 429, 430, 431, 432, 433, 434, 435, 436, 461, 462, 463, 464, 465, 466, 467, 468] (by decide +kernel) (by decide +kernel)) (goodIn_sub (fun _ h => List.mem_append_left _ (List.mem_append_left _ (List.mem_append_right _ h))) (by decide +kernel))) (goodIn_sub (fun _ h => List.mem_append_left _ (List.mem_append_right _ h)) (by decide +kernel))
set_option maxRecDepth 20000 in
theorem gL_law_L_bears : GoodIn wsL_law (va_wsS RL 108 yL_bears wsL_bears) := goodIn_app (goodIn_of _ (by decide +kernel)) ggL_law_L_bears
set_option maxRecDepth 20000 in
theorem ggL_law_X3_bears : GoodIn wsL_law wsX3_bears := goodIn_r _ [327, 77, 166, 167, 168, 5, 169, 140, 78, 79, 80, 81, 82, 83, 84, 273, 274, 275, 276, 50, 51, 45, 277, 48, 46, 170, 171, 172, 173, 437, 438, 439, 440, 441, 442, 443, 444, 445, 446, 447, 448, 449, 450, 451, 452, 453, 454, 455, 456, 457, 458] (by decide +kernel) (by decide +kernel)
set_option maxRecDepth 20000 in
theorem gL_law_X3_bears : GoodIn wsL_law (wsV RL 110 RX3 yX3_bears wsX3_bears) := goodIn_app (goodIn_of _ (by decide +kernel)) ggL_law_X3_bears
set_option maxRecDepth 20000 in
theorem ggL_law_L_due : GoodIn wsL_law wsL_due := goodIn_ca (goodIn_r _ [330, 64, 331, 332, 333, 2, 334, 71, 72, 20, 335, 114, 336, 337, 134, 132, 424, 425, 426, 427, 428, 429, 430, 431, 432, 433, 434, 435, 436, 461, 462, 463, 464, 465, 466, 467, 468] (by decide +kernel) (by decide +kernel)) (goodIn_sub (fun _ h => List.mem_append_left _ (List.mem_append_right _ h)) (by decide +kernel))
set_option maxRecDepth 20000 in
theorem gL_law_L_due : GoodIn wsL_law (va_wsS RL 111 yL_due wsL_due) := goodIn_app (goodIn_of _ (by decide +kernel)) ggL_law_L_due
set_option maxRecDepth 20000 in
theorem ggL_law_X3_due : GoodIn wsL_law wsX3_due := goodIn_r _ [341, 77, 140, 141, 49, 50, 78, 79, 5, 80, 81, 82, 83, 84, 437, 438, 439, 440, 441, 442, 443, 444, 445, 446, 447, 448, 449, 450, 451, 452, 453, 454, 455, 456, 457, 458] (by decide +kernel) (by decide +kernel)
set_option maxRecDepth 20000 in
theorem gL_law_X3_due : GoodIn wsL_law (wsV RL 113 RX3 yX3_due wsX3_due) := goodIn_app (goodIn_of _ (by decide +kernel)) ggL_law_X3_due
set_option maxRecDepth 20000 in
theorem ggL_law_L_balance : GoodIn wsL_law wsL_balance := goodIn_ca (goodIn_r _ [344, 63, 345, 346, 347, 2, 348, 69, 70, 22, 424, 425, 426, 427, 428, 429, 430, 431, 432, 433, 434, 435, 436] (by decide +kernel) (by decide +kernel)) (goodIn_sub (fun _ h => List.mem_append_left _ (List.mem_append_left _ (List.mem_append_right _ h))) (by decide +kernel))
set_option maxRecDepth 20000 in
theorem gL_law_L_balance : GoodIn wsL_law (va_wsS RL 114 yL_balance wsL_balance) := goodIn_app (goodIn_of _ (by decide +kernel)) ggL_law_L_balance
set_option maxRecDepth 20000 in
theorem ggL_law_X3_balance : GoodIn wsL_law wsX3_balance := goodIn_r _ [352, 77, 52, 142, 143, 5, 144, 78, 79, 80, 81, 82, 83, 84, 437, 438, 439, 440, 441, 442, 443, 444, 445, 446, 447, 448, 449, 450, 451, 452, 453, 454, 455, 456, 457, 458] (by decide +kernel) (by decide +kernel)
set_option maxRecDepth 20000 in
theorem gL_law_X3_balance : GoodIn wsL_law (wsV RL 116 RX3 yX3_balance wsX3_balance) := goodIn_app (goodIn_of _ (by decide +kernel)) ggL_law_X3_balance
set_option maxRecDepth 20000 in
theorem ggL_law_L_tranche : GoodIn wsL_law wsL_tranche := goodIn_ca (goodIn_r _ [355, 63, 356, 357, 358, 2, 359, 69, 70, 26, 424, 425, 426, 427, 428, 429, 430, 431, 432, 433, 434, 435, 436, 459, 460] (by decide +kernel) (by decide +kernel)) (goodIn_sub (fun _ h => List.mem_append_left _ (List.mem_append_left _ (List.mem_append_right _ h))) (by decide +kernel))
set_option maxRecDepth 20000 in
theorem gL_law_L_tranche : GoodIn wsL_law (va_wsS RL 117 yL_tranche wsL_tranche) := goodIn_app (goodIn_of _ (by decide +kernel)) ggL_law_L_tranche
set_option maxRecDepth 20000 in
theorem ggL_law_X3_tranche : GoodIn wsL_law wsX3_tranche := goodIn_r _ [363, 77, 53, 78, 79, 5, 80, 81, 82, 83, 84, 437, 438, 439, 440, 441, 442, 443, 444, 445, 446, 447, 448, 449, 450, 451, 452, 453, 454, 455, 456, 457, 458] (by decide +kernel) (by decide +kernel)
set_option maxRecDepth 20000 in
theorem gL_law_X3_tranche : GoodIn wsL_law (wsV RL 119 RX3 yX3_tranche wsX3_tranche) := goodIn_app (goodIn_of _ (by decide +kernel)) ggL_law_X3_tranche
set_option maxRecDepth 20000 in
theorem ggL_law_X2_replicaRate : GoodIn wsL_law wsX2_replicaRate := goodIn_r _ [367, 26, 254, 25, 255, 256, 35, 36, 424, 425, 426, 427, 428, 429, 430, 431, 432, 433, 434, 435, 436, 459, 460] (by decide +kernel) (by decide +kernel)
set_option maxRecDepth 20000 in
theorem gL_law_X2_replicaRate : GoodIn wsL_law (wsV RL 120 RX2 yX2_replicaRate wsX2_replicaRate) := goodIn_app (goodIn_of _ (by decide +kernel)) ggL_law_X2_replicaRate
set_option maxRecDepth 20000 in
theorem ggL_law_X3_replicaRate : GoodIn wsL_law wsX3_replicaRate := goodIn_r _ [371, 77, 282, 283, 284, 5, 285, 53, 54, 437, 438, 439, 440, 441, 442, 443, 444, 445, 446, 447, 448, 449, 450, 451, 452, 453, 454, 455, 456, 457, 458] (by decide +kernel) (by decide +kernel)
set_option maxRecDepth 20000 in
theorem gL_law_X3_replicaRate : GoodIn wsL_law (wsV RL 123 RX3 yX3_replicaRate wsX3_replicaRate) := goodIn_app (goodIn_of _ (by decide +kernel)) ggL_law_X3_replicaRate
set_option maxRecDepth 20000 in
theorem ggL_law_L_margin : GoodIn wsL_law wsL_margin := goodIn_ca (goodIn_r _ [374, 63, 375, 376, 377, 2, 378, 69, 70, 28, 379, 380, 381, 382, 18, 424, 425, 426, 427, 428, 429, 430, 431, 432, 433, 434, 435, 436] (by decide +kernel) (by decide +kernel)) (goodIn_sub (fun _ h => List.mem_append_left _ (List.mem_append_left _ (List.mem_append_right _ h))) (by decide +kernel))
set_option maxRecDepth 20000 in
theorem gL_law_L_margin : GoodIn wsL_law (va_wsS RL 124 yL_margin wsL_margin) := goodIn_app (goodIn_of _ (by decide +kernel)) ggL_law_L_margin
set_option maxRecDepth 20000 in
theorem ggL_law_X3_margin : GoodIn wsL_law wsX3_margin := goodIn_r _ [386, 77, 55, 142, 143, 5, 144, 78, 79, 80, 387, 388, 389, 390, 141, 81, 82, 83, 84, 437, 438, 439, 440, 441, 442, 443, 444, 445, 446, 447, 448, 449, 450, 451, 452, 453, 454, 455, 456, 457, 458] (by decide +kernel) (by decide +kernel)
set_option maxRecDepth 20000 in
theorem gL_law_X3_margin : GoodIn wsL_law (wsV RL 126 RX3 yX3_margin wsX3_margin) := goodIn_app (goodIn_of _ (by decide +kernel)) ggL_law_X3_margin
set_option maxRecDepth 20000 in
theorem ggL_law_L_byProduct : GoodIn wsL_law wsL_byProduct := goodIn_ca (goodIn_r _ [393, 63, 394, 395, 396, 2, 397, 69, 70, 29, 379, 380, 381, 382, 18, 424, 425, 426, 427, 428, 429, 430, 431, 432, 433, 434, 435, 436] (by decide +kernel) (by decide +kernel)) (goodIn_sub (fun _ h => List.mem_append_left _ (List.mem_append_left _ (List.mem_append_right _ h))) (by decide +kernel))
set_option maxRecDepth 20000 in
theorem gL_law_L_byProduct : GoodIn wsL_law (va_wsS RL 127 yL_byProduct wsL_byProduct) := goodIn_app (goodIn_of _ (by decide +kernel)) ggL_law_L_byProduct
set_option maxRecDepth 20000 in
theorem ggL_law_X3_byProduct : GoodIn wsL_law wsX3_byProduct := goodIn_r _ [401, 77, 56, 78, 79, 5, 80, 387, 388, 389, 390, 141, 81, 82, 83, 84, 437, 438, 439, 440, 441, 442, 443, 444, 445, 446, 447, 448, 449, 450, 451, 452, 453, 454, 455, 456, 457, 458] (by decide +kernel) (by decide +kernel)
set_option maxRecDepth 20000 in
theorem gL_law_X3_byProduct : GoodIn wsL_law (wsV RL 129 RX3 yX3_byProduct wsX3_byProduct) := goodIn_app (goodIn_of _ (by decide +kernel)) ggL_law_X3_byProduct
set_option maxRecDepth 20000 in
theorem ggL_law_L_treasury : GoodIn wsL_law wsL_treasury := goodIn_ca (goodIn_r _ [404, 63, 405, 406, 407, 2, 408, 69, 70, 30, 379, 380, 381, 382, 18, 424, 425, 426, 427, 428, 429, 430, 431, 432, 433, 434, 435, 436] (by decide +kernel) (by decide +kernel)) (goodIn_sub (fun _ h => List.mem_append_left _ (List.mem_append_left _ (List.mem_append_right _ h))) (by decide +kernel))
set_option maxRecDepth 20000 in
theorem gL_law_L_treasury : GoodIn wsL_law (va_wsS RL 130 yL_treasury wsL_treasury) := goodIn_app (goodIn_of _ (by decide +kernel)) ggL_law_L_treasury
set_option maxRecDepth 20000 in
theorem ggL_law_X3_treasury : GoodIn wsL_law wsX3_treasury := goodIn_r _ [412, 77, 57, 387, 388, 389, 5, 390, 141, 78, 79, 80, 81, 82, 83, 84, 437, 438, 439, 440, 441, 442, 443, 444, 445, 446, 447, 448, 449, 450, 451, 452, 453, 454, 455, 456, 457, 458] (by decide +kernel) (by decide +kernel)
set_option maxRecDepth 20000 in
theorem gL_law_X3_treasury : GoodIn wsL_law (wsV RL 132 RX3 yX3_treasury wsX3_treasury) := goodIn_app (goodIn_of _ (by decide +kernel)) ggL_law_X3_treasury
set_option maxRecDepth 20000 in
theorem ggL_law_L_interest : GoodIn wsL_law wsL_interest := goodIn_ca (goodIn_r _ [415, 63, 416, 417, 418, 2, 419, 69, 70, 31, 379, 380, 381, 382, 18, 424, 425, 426, 427, 428, 429, 430, 431, 432, 433, 434, 435, 436] (by decide +kernel) (by decide +kernel)) (goodIn_sub (fun _ h => List.mem_append_left _ (List.mem_append_left _ (List.mem_append_right _ h))) (by decide +kernel))
set_option maxRecDepth 20000 in
theorem gL_law_L_interest : GoodIn wsL_law (va_wsS RL 133 yL_interest wsL_interest) := goodIn_app (goodIn_of _ (by decide +kernel)) ggL_law_L_interest
set_option maxRecDepth 20000 in
theorem ggL_law_X3_interest : GoodIn wsL_law wsX3_interest := goodIn_r _ [423, 77, 58, 387, 388, 389, 5, 390, 141, 78, 79, 80, 81, 82, 83, 84, 437, 438, 439, 440, 441, 442, 443, 444, 445, 446, 447, 448, 449, 450, 451, 452, 453, 454, 455, 456, 457, 458] (by decide +kernel) (by decide +kernel)
set_option maxRecDepth 20000 in
theorem gL_law_X3_interest : GoodIn wsL_law (wsV RL 135 RX3 yX3_interest wsX3_interest) := goodIn_app (goodIn_of _ (by decide +kernel)) ggL_law_X3_interest
theorem dL_law_0 : decode cL_law 0 = .ok (.new 8, 3) := by decide +kernel
theorem dL_law_3 : decode cL_law 3 = .ok (.dup, 1) := by decide +kernel
theorem dL_law_4 : decode cL_law 4 = .ok (.invokespecial 65, 3) := by decide +kernel
theorem dL_law_7 : decode cL_law 7 = .ok (.astore_n 1, 1) := by decide +kernel
theorem dL_law_8 : decode cL_law 8 = .ok (.new 66, 3) := by decide +kernel
theorem dL_law_11 : decode cL_law 11 = .ok (.dup, 1) := by decide +kernel
theorem dL_law_12 : decode cL_law 12 = .ok (.invokespecial 68, 3) := by decide +kernel
theorem dL_law_15 : decode cL_law 15 = .ok (.astore_n 2, 1) := by decide +kernel
theorem dL_law_16 : decode cL_law 16 = .ok (.iconst 1, 1) := by decide +kernel
theorem dL_law_17 : decode cL_law 17 = .ok (.newarray .long, 2) := by decide +kernel
theorem dL_law_19 : decode cL_law 19 = .ok (.astore_n 3, 1) := by decide +kernel
theorem dL_law_20 : decode cL_law 20 = .ok (.iconst 0, 1) := by decide +kernel
theorem dL_law_21 : decode cL_law 21 = .ok (.istore 4, 2) := by decide +kernel
theorem dL_law_23 : decode cL_law 23 = .ok (.iload 4, 2) := by decide +kernel
theorem dL_law_25 : decode cL_law 25 = .ok (.aload_n 0, 1) := by decide +kernel
theorem dL_law_26 : decode cL_law 26 = .ok (.arraylength, 1) := by decide +kernel
theorem dL_law_27 : decode cL_law 27 = .ok (.bipush 7, 2) := by decide +kernel
theorem dL_law_29 : decode cL_law 29 = .ok (.isub, 1) := by decide +kernel
theorem dL_law_30 : decode cL_law 30 = .ok (.if_icmp .gt 1113, 3) := by decide +kernel
theorem dL_law_33 : decode cL_law 33 = .ok (.aload_n 0, 1) := by decide +kernel
theorem dL_law_34 : decode cL_law 34 = .ok (.iload 4, 2) := by decide +kernel
theorem dL_law_36 : decode cL_law 36 = .ok (.iaload, 1) := by decide +kernel
theorem dL_law_37 : decode cL_law 37 = .ok (.bipush 31, 2) := by decide +kernel
theorem dL_law_39 : decode cL_law 39 = .ok (.iand, 1) := by decide +kernel
theorem dL_law_40 : decode cL_law 40 = .ok (.tableswitch 1097 0 17 #[88, 156, 216, 350, 406, 474, 518, 531, 544, 600, 668, 724, 780, 836, 849, 917, 985, 1041], 88) := by decide +kernel
theorem dL_law_128 : decode cL_law 128 = .ok (.aload_n 1, 1) := by decide +kernel
theorem dL_law_129 : decode cL_law 129 = .ok (.aload_n 0, 1) := by decide +kernel
theorem dL_law_130 : decode cL_law 130 = .ok (.iload 4, 2) := by decide +kernel
theorem dL_law_132 : decode cL_law 132 = .ok (.iconst 1, 1) := by decide +kernel
theorem dL_law_133 : decode cL_law 133 = .ok (.iadd, 1) := by decide +kernel
theorem dL_law_134 : decode cL_law 134 = .ok (.iaload, 1) := by decide +kernel
theorem dL_law_135 : decode cL_law 135 = .ok (.aload_n 0, 1) := by decide +kernel
theorem dL_law_136 : decode cL_law 136 = .ok (.iload 4, 2) := by decide +kernel
theorem dL_law_138 : decode cL_law 138 = .ok (.iconst 2, 1) := by decide +kernel
theorem dL_law_139 : decode cL_law 139 = .ok (.iadd, 1) := by decide +kernel
theorem dL_law_140 : decode cL_law 140 = .ok (.iaload, 1) := by decide +kernel
theorem dL_law_141 : decode cL_law 141 = .ok (.aload_n 3, 1) := by decide +kernel
theorem dL_law_142 : decode cL_law 142 = .ok (.invokestatic 69, 3) := by decide +kernel
theorem dL_law_145 : decode cL_law 145 = .ok (.istore 5, 2) := by decide +kernel
theorem dL_law_147 : decode cL_law 147 = .ok (.aload_n 2, 1) := by decide +kernel
theorem dL_law_148 : decode cL_law 148 = .ok (.aload_n 0, 1) := by decide +kernel
theorem dL_law_149 : decode cL_law 149 = .ok (.iload 4, 2) := by decide +kernel
theorem dL_law_151 : decode cL_law 151 = .ok (.iconst 1, 1) := by decide +kernel
theorem dL_law_152 : decode cL_law 152 = .ok (.iadd, 1) := by decide +kernel
theorem dL_law_153 : decode cL_law 153 = .ok (.iaload, 1) := by decide +kernel
theorem dL_law_154 : decode cL_law 154 = .ok (.aload_n 0, 1) := by decide +kernel
theorem dL_law_155 : decode cL_law 155 = .ok (.iload 4, 2) := by decide +kernel
theorem dL_law_157 : decode cL_law 157 = .ok (.iconst 2, 1) := by decide +kernel
theorem dL_law_158 : decode cL_law 158 = .ok (.iadd, 1) := by decide +kernel
theorem dL_law_159 : decode cL_law 159 = .ok (.iaload, 1) := by decide +kernel
theorem dL_law_160 : decode cL_law 160 = .ok (.invokevirtual 74, 3) := by decide +kernel
theorem dL_law_163 : decode cL_law 163 = .ok (.istore 6, 2) := by decide +kernel
theorem dL_law_165 : decode cL_law 165 = .ok (.aload_n 2, 1) := by decide +kernel
theorem dL_law_166 : decode cL_law 166 = .ok (.invokevirtual 75, 3) := by decide +kernel
theorem dL_law_169 : decode cL_law 169 = .ok (.iload 5, 2) := by decide +kernel
theorem dL_law_171 : decode cL_law 171 = .ok (.if_icmp .eq 5, 3) := by decide +kernel
theorem dL_law_174 : decode cL_law 174 = .ok (.iconst 0, 1) := by decide +kernel
theorem dL_law_175 : decode cL_law 175 = .ok (.ireturn, 1) := by decide +kernel
theorem dL_law_176 : decode cL_law 176 = .ok (.iload 5, 2) := by decide +kernel
theorem dL_law_178 : decode cL_law 178 = .ok (.ifCond .ne 15, 3) := by decide +kernel
theorem dL_law_181 : decode cL_law 181 = .ok (.aload_n 3, 1) := by decide +kernel
theorem dL_law_182 : decode cL_law 182 = .ok (.iconst 0, 1) := by decide +kernel
theorem dL_law_183 : decode cL_law 183 = .ok (.laload, 1) := by decide +kernel
theorem dL_law_184 : decode cL_law 184 = .ok (.iload 6, 2) := by decide +kernel
theorem dL_law_186 : decode cL_law 186 = .ok (.i2l, 1) := by decide +kernel
theorem dL_law_187 : decode cL_law 187 = .ok (.lcmp, 1) := by decide +kernel
theorem dL_law_188 : decode cL_law 188 = .ok (.ifCond .eq 5, 3) := by decide +kernel
theorem dL_law_191 : decode cL_law 191 = .ok (.iconst 0, 1) := by decide +kernel
theorem dL_law_192 : decode cL_law 192 = .ok (.ireturn, 1) := by decide +kernel
theorem dL_law_193 : decode cL_law 193 = .ok (.goto 944, 3) := by decide +kernel
theorem dL_law_196 : decode cL_law 196 = .ok (.aload_n 1, 1) := by decide +kernel
theorem dL_law_197 : decode cL_law 197 = .ok (.aload_n 0, 1) := by decide +kernel
theorem dL_law_198 : decode cL_law 198 = .ok (.iload 4, 2) := by decide +kernel
theorem dL_law_200 : decode cL_law 200 = .ok (.iconst 1, 1) := by decide +kernel
theorem dL_law_201 : decode cL_law 201 = .ok (.iadd, 1) := by decide +kernel
theorem dL_law_202 : decode cL_law 202 = .ok (.iaload, 1) := by decide +kernel
theorem dL_law_203 : decode cL_law 203 = .ok (.aload_n 0, 1) := by decide +kernel
theorem dL_law_204 : decode cL_law 204 = .ok (.iload 4, 2) := by decide +kernel
theorem dL_law_206 : decode cL_law 206 = .ok (.iconst 2, 1) := by decide +kernel
theorem dL_law_207 : decode cL_law 207 = .ok (.iadd, 1) := by decide +kernel
theorem dL_law_208 : decode cL_law 208 = .ok (.iaload, 1) := by decide +kernel
theorem dL_law_209 : decode cL_law 209 = .ok (.aload_n 0, 1) := by decide +kernel
theorem dL_law_210 : decode cL_law 210 = .ok (.iload 4, 2) := by decide +kernel
theorem dL_law_212 : decode cL_law 212 = .ok (.iconst 3, 1) := by decide +kernel
theorem dL_law_213 : decode cL_law 213 = .ok (.iadd, 1) := by decide +kernel
theorem dL_law_214 : decode cL_law 214 = .ok (.iaload, 1) := by decide +kernel
theorem dL_law_215 : decode cL_law 215 = .ok (.invokestatic 78, 3) := by decide +kernel
theorem dL_law_218 : decode cL_law 218 = .ok (.istore 5, 2) := by decide +kernel
theorem dL_law_220 : decode cL_law 220 = .ok (.aload_n 2, 1) := by decide +kernel
theorem dL_law_221 : decode cL_law 221 = .ok (.aload_n 0, 1) := by decide +kernel
theorem dL_law_222 : decode cL_law 222 = .ok (.iload 4, 2) := by decide +kernel
theorem dL_law_224 : decode cL_law 224 = .ok (.iconst 1, 1) := by decide +kernel
theorem dL_law_225 : decode cL_law 225 = .ok (.iadd, 1) := by decide +kernel
theorem dL_law_226 : decode cL_law 226 = .ok (.iaload, 1) := by decide +kernel
theorem dL_law_227 : decode cL_law 227 = .ok (.aload_n 0, 1) := by decide +kernel
theorem dL_law_228 : decode cL_law 228 = .ok (.iload 4, 2) := by decide +kernel
theorem dL_law_230 : decode cL_law 230 = .ok (.iconst 2, 1) := by decide +kernel
theorem dL_law_231 : decode cL_law 231 = .ok (.iadd, 1) := by decide +kernel
theorem dL_law_232 : decode cL_law 232 = .ok (.iaload, 1) := by decide +kernel
theorem dL_law_233 : decode cL_law 233 = .ok (.aload_n 0, 1) := by decide +kernel
theorem dL_law_234 : decode cL_law 234 = .ok (.iload 4, 2) := by decide +kernel
theorem dL_law_236 : decode cL_law 236 = .ok (.iconst 3, 1) := by decide +kernel
theorem dL_law_237 : decode cL_law 237 = .ok (.iadd, 1) := by decide +kernel
theorem dL_law_238 : decode cL_law 238 = .ok (.iaload, 1) := by decide +kernel
theorem dL_law_239 : decode cL_law 239 = .ok (.invokevirtual 81, 3) := by decide +kernel
theorem dL_law_242 : decode cL_law 242 = .ok (.aload_n 2, 1) := by decide +kernel
theorem dL_law_243 : decode cL_law 243 = .ok (.invokevirtual 75, 3) := by decide +kernel
theorem dL_law_246 : decode cL_law 246 = .ok (.iload 5, 2) := by decide +kernel
theorem dL_law_248 : decode cL_law 248 = .ok (.if_icmp .eq 5, 3) := by decide +kernel
theorem dL_law_251 : decode cL_law 251 = .ok (.iconst 0, 1) := by decide +kernel
theorem dL_law_252 : decode cL_law 252 = .ok (.ireturn, 1) := by decide +kernel
theorem dL_law_253 : decode cL_law 253 = .ok (.goto 884, 3) := by decide +kernel
theorem dL_law_256 : decode cL_law 256 = .ok (.aload_n 1, 1) := by decide +kernel
theorem dL_law_257 : decode cL_law 257 = .ok (.aload_n 0, 1) := by decide +kernel
theorem dL_law_258 : decode cL_law 258 = .ok (.iload 4, 2) := by decide +kernel
theorem dL_law_260 : decode cL_law 260 = .ok (.iconst 1, 1) := by decide +kernel
theorem dL_law_261 : decode cL_law 261 = .ok (.iadd, 1) := by decide +kernel
theorem dL_law_262 : decode cL_law 262 = .ok (.iaload, 1) := by decide +kernel
theorem dL_law_263 : decode cL_law 263 = .ok (.aload_n 0, 1) := by decide +kernel
theorem dL_law_264 : decode cL_law 264 = .ok (.iload 4, 2) := by decide +kernel
theorem dL_law_266 : decode cL_law 266 = .ok (.iconst 2, 1) := by decide +kernel
theorem dL_law_267 : decode cL_law 267 = .ok (.iadd, 1) := by decide +kernel
theorem dL_law_268 : decode cL_law 268 = .ok (.iaload, 1) := by decide +kernel
theorem dL_law_269 : decode cL_law 269 = .ok (.aload_n 0, 1) := by decide +kernel
theorem dL_law_270 : decode cL_law 270 = .ok (.iload 4, 2) := by decide +kernel
theorem dL_law_272 : decode cL_law 272 = .ok (.iconst 3, 1) := by decide +kernel
theorem dL_law_273 : decode cL_law 273 = .ok (.iadd, 1) := by decide +kernel
theorem dL_law_274 : decode cL_law 274 = .ok (.iaload, 1) := by decide +kernel
theorem dL_law_275 : decode cL_law 275 = .ok (.aload_n 0, 1) := by decide +kernel
theorem dL_law_276 : decode cL_law 276 = .ok (.iload 4, 2) := by decide +kernel
theorem dL_law_278 : decode cL_law 278 = .ok (.iconst 4, 1) := by decide +kernel
theorem dL_law_279 : decode cL_law 279 = .ok (.iadd, 1) := by decide +kernel
theorem dL_law_280 : decode cL_law 280 = .ok (.iaload, 1) := by decide +kernel
theorem dL_law_281 : decode cL_law 281 = .ok (.aload_n 0, 1) := by decide +kernel
theorem dL_law_282 : decode cL_law 282 = .ok (.iload 4, 2) := by decide +kernel
theorem dL_law_284 : decode cL_law 284 = .ok (.iconst 5, 1) := by decide +kernel
theorem dL_law_285 : decode cL_law 285 = .ok (.iadd, 1) := by decide +kernel
theorem dL_law_286 : decode cL_law 286 = .ok (.iaload, 1) := by decide +kernel
theorem dL_law_287 : decode cL_law 287 = .ok (.aload_n 0, 1) := by decide +kernel
theorem dL_law_288 : decode cL_law 288 = .ok (.iload 4, 2) := by decide +kernel
theorem dL_law_290 : decode cL_law 290 = .ok (.bipush 6, 2) := by decide +kernel
theorem dL_law_292 : decode cL_law 292 = .ok (.iadd, 1) := by decide +kernel
theorem dL_law_293 : decode cL_law 293 = .ok (.iaload, 1) := by decide +kernel
theorem dL_law_294 : decode cL_law 294 = .ok (.ifCond .eq 7, 3) := by decide +kernel
theorem dL_law_297 : decode cL_law 297 = .ok (.iconst 1, 1) := by decide +kernel
theorem dL_law_298 : decode cL_law 298 = .ok (.goto 4, 3) := by decide +kernel
theorem dL_law_301 : decode cL_law 301 = .ok (.iconst 0, 1) := by decide +kernel
theorem dL_law_302 : decode cL_law 302 = .ok (.aload_n 3, 1) := by decide +kernel
theorem dL_law_303 : decode cL_law 303 = .ok (.invokestatic 82, 3) := by decide +kernel
theorem dL_law_306 : decode cL_law 306 = .ok (.istore 5, 2) := by decide +kernel
theorem dL_law_308 : decode cL_law 308 = .ok (.aload_n 2, 1) := by decide +kernel
theorem dL_law_309 : decode cL_law 309 = .ok (.aload_n 0, 1) := by decide +kernel
theorem dL_law_310 : decode cL_law 310 = .ok (.iload 4, 2) := by decide +kernel
theorem dL_law_312 : decode cL_law 312 = .ok (.iconst 1, 1) := by decide +kernel
theorem dL_law_313 : decode cL_law 313 = .ok (.iadd, 1) := by decide +kernel
theorem dL_law_314 : decode cL_law 314 = .ok (.iaload, 1) := by decide +kernel
theorem dL_law_315 : decode cL_law 315 = .ok (.aload_n 0, 1) := by decide +kernel
theorem dL_law_316 : decode cL_law 316 = .ok (.iload 4, 2) := by decide +kernel
theorem dL_law_318 : decode cL_law 318 = .ok (.iconst 2, 1) := by decide +kernel
theorem dL_law_319 : decode cL_law 319 = .ok (.iadd, 1) := by decide +kernel
theorem dL_law_320 : decode cL_law 320 = .ok (.iaload, 1) := by decide +kernel
theorem dL_law_321 : decode cL_law 321 = .ok (.aload_n 0, 1) := by decide +kernel
theorem dL_law_322 : decode cL_law 322 = .ok (.iload 4, 2) := by decide +kernel
theorem dL_law_324 : decode cL_law 324 = .ok (.iconst 3, 1) := by decide +kernel
theorem dL_law_325 : decode cL_law 325 = .ok (.iadd, 1) := by decide +kernel
theorem dL_law_326 : decode cL_law 326 = .ok (.iaload, 1) := by decide +kernel
theorem dL_law_327 : decode cL_law 327 = .ok (.aload_n 0, 1) := by decide +kernel
theorem dL_law_328 : decode cL_law 328 = .ok (.iload 4, 2) := by decide +kernel
theorem dL_law_330 : decode cL_law 330 = .ok (.iconst 4, 1) := by decide +kernel
theorem dL_law_331 : decode cL_law 331 = .ok (.iadd, 1) := by decide +kernel
theorem dL_law_332 : decode cL_law 332 = .ok (.iaload, 1) := by decide +kernel
theorem dL_law_333 : decode cL_law 333 = .ok (.aload_n 0, 1) := by decide +kernel
theorem dL_law_334 : decode cL_law 334 = .ok (.iload 4, 2) := by decide +kernel
theorem dL_law_336 : decode cL_law 336 = .ok (.iconst 5, 1) := by decide +kernel
theorem dL_law_337 : decode cL_law 337 = .ok (.iadd, 1) := by decide +kernel
theorem dL_law_338 : decode cL_law 338 = .ok (.iaload, 1) := by decide +kernel
theorem dL_law_339 : decode cL_law 339 = .ok (.aload_n 0, 1) := by decide +kernel
theorem dL_law_340 : decode cL_law 340 = .ok (.iload 4, 2) := by decide +kernel
theorem dL_law_342 : decode cL_law 342 = .ok (.bipush 6, 2) := by decide +kernel
theorem dL_law_344 : decode cL_law 344 = .ok (.iadd, 1) := by decide +kernel
theorem dL_law_345 : decode cL_law 345 = .ok (.iaload, 1) := by decide +kernel
theorem dL_law_346 : decode cL_law 346 = .ok (.ifCond .eq 7, 3) := by decide +kernel
theorem dL_law_349 : decode cL_law 349 = .ok (.iconst 1, 1) := by decide +kernel
theorem dL_law_350 : decode cL_law 350 = .ok (.goto 4, 3) := by decide +kernel
theorem dL_law_353 : decode cL_law 353 = .ok (.iconst 0, 1) := by decide +kernel
theorem dL_law_354 : decode cL_law 354 = .ok (.invokevirtual 85, 3) := by decide +kernel
theorem dL_law_357 : decode cL_law 357 = .ok (.istore 6, 2) := by decide +kernel
theorem dL_law_359 : decode cL_law 359 = .ok (.aload_n 2, 1) := by decide +kernel
theorem dL_law_360 : decode cL_law 360 = .ok (.invokevirtual 75, 3) := by decide +kernel
theorem dL_law_363 : decode cL_law 363 = .ok (.iload 5, 2) := by decide +kernel
theorem dL_law_365 : decode cL_law 365 = .ok (.if_icmp .eq 5, 3) := by decide +kernel
theorem dL_law_368 : decode cL_law 368 = .ok (.iconst 0, 1) := by decide +kernel
theorem dL_law_369 : decode cL_law 369 = .ok (.ireturn, 1) := by decide +kernel
theorem dL_law_370 : decode cL_law 370 = .ok (.iload 5, 2) := by decide +kernel
theorem dL_law_372 : decode cL_law 372 = .ok (.ifCond .ne 15, 3) := by decide +kernel
theorem dL_law_375 : decode cL_law 375 = .ok (.aload_n 3, 1) := by decide +kernel
theorem dL_law_376 : decode cL_law 376 = .ok (.iconst 0, 1) := by decide +kernel
theorem dL_law_377 : decode cL_law 377 = .ok (.laload, 1) := by decide +kernel
theorem dL_law_378 : decode cL_law 378 = .ok (.iload 6, 2) := by decide +kernel
theorem dL_law_380 : decode cL_law 380 = .ok (.i2l, 1) := by decide +kernel
theorem dL_law_381 : decode cL_law 381 = .ok (.lcmp, 1) := by decide +kernel
theorem dL_law_382 : decode cL_law 382 = .ok (.ifCond .eq 5, 3) := by decide +kernel
theorem dL_law_385 : decode cL_law 385 = .ok (.iconst 0, 1) := by decide +kernel
theorem dL_law_386 : decode cL_law 386 = .ok (.ireturn, 1) := by decide +kernel
theorem dL_law_387 : decode cL_law 387 = .ok (.goto 750, 3) := by decide +kernel
theorem dL_law_390 : decode cL_law 390 = .ok (.aload_n 1, 1) := by decide +kernel
theorem dL_law_391 : decode cL_law 391 = .ok (.aload_n 0, 1) := by decide +kernel
theorem dL_law_392 : decode cL_law 392 = .ok (.iload 4, 2) := by decide +kernel
theorem dL_law_394 : decode cL_law 394 = .ok (.iconst 1, 1) := by decide +kernel
theorem dL_law_395 : decode cL_law 395 = .ok (.iadd, 1) := by decide +kernel
theorem dL_law_396 : decode cL_law 396 = .ok (.iaload, 1) := by decide +kernel
theorem dL_law_397 : decode cL_law 397 = .ok (.aload_n 3, 1) := by decide +kernel
theorem dL_law_398 : decode cL_law 398 = .ok (.invokestatic 86, 3) := by decide +kernel
theorem dL_law_401 : decode cL_law 401 = .ok (.istore 5, 2) := by decide +kernel
theorem dL_law_403 : decode cL_law 403 = .ok (.aload_n 2, 1) := by decide +kernel
theorem dL_law_404 : decode cL_law 404 = .ok (.aload_n 0, 1) := by decide +kernel
theorem dL_law_405 : decode cL_law 405 = .ok (.iload 4, 2) := by decide +kernel
theorem dL_law_407 : decode cL_law 407 = .ok (.iconst 1, 1) := by decide +kernel
theorem dL_law_408 : decode cL_law 408 = .ok (.iadd, 1) := by decide +kernel
theorem dL_law_409 : decode cL_law 409 = .ok (.iaload, 1) := by decide +kernel
theorem dL_law_410 : decode cL_law 410 = .ok (.invokevirtual 89, 3) := by decide +kernel
theorem dL_law_413 : decode cL_law 413 = .ok (.istore 6, 2) := by decide +kernel
theorem dL_law_415 : decode cL_law 415 = .ok (.aload_n 2, 1) := by decide +kernel
theorem dL_law_416 : decode cL_law 416 = .ok (.invokevirtual 75, 3) := by decide +kernel
theorem dL_law_419 : decode cL_law 419 = .ok (.iload 5, 2) := by decide +kernel
theorem dL_law_421 : decode cL_law 421 = .ok (.if_icmp .eq 5, 3) := by decide +kernel
theorem dL_law_424 : decode cL_law 424 = .ok (.iconst 0, 1) := by decide +kernel
theorem dL_law_425 : decode cL_law 425 = .ok (.ireturn, 1) := by decide +kernel
theorem dL_law_426 : decode cL_law 426 = .ok (.iload 5, 2) := by decide +kernel
theorem dL_law_428 : decode cL_law 428 = .ok (.ifCond .ne 15, 3) := by decide +kernel
theorem dL_law_431 : decode cL_law 431 = .ok (.aload_n 3, 1) := by decide +kernel
theorem dL_law_432 : decode cL_law 432 = .ok (.iconst 0, 1) := by decide +kernel
theorem dL_law_433 : decode cL_law 433 = .ok (.laload, 1) := by decide +kernel
theorem dL_law_434 : decode cL_law 434 = .ok (.iload 6, 2) := by decide +kernel
theorem dL_law_436 : decode cL_law 436 = .ok (.i2l, 1) := by decide +kernel
theorem dL_law_437 : decode cL_law 437 = .ok (.lcmp, 1) := by decide +kernel
theorem dL_law_438 : decode cL_law 438 = .ok (.ifCond .eq 5, 3) := by decide +kernel
theorem dL_law_441 : decode cL_law 441 = .ok (.iconst 0, 1) := by decide +kernel
theorem dL_law_442 : decode cL_law 442 = .ok (.ireturn, 1) := by decide +kernel
theorem dL_law_443 : decode cL_law 443 = .ok (.goto 694, 3) := by decide +kernel
theorem dL_law_446 : decode cL_law 446 = .ok (.aload_n 1, 1) := by decide +kernel
theorem dL_law_447 : decode cL_law 447 = .ok (.aload_n 0, 1) := by decide +kernel
theorem dL_law_448 : decode cL_law 448 = .ok (.iload 4, 2) := by decide +kernel
theorem dL_law_450 : decode cL_law 450 = .ok (.iconst 1, 1) := by decide +kernel
theorem dL_law_451 : decode cL_law 451 = .ok (.iadd, 1) := by decide +kernel
theorem dL_law_452 : decode cL_law 452 = .ok (.iaload, 1) := by decide +kernel
theorem dL_law_453 : decode cL_law 453 = .ok (.aload_n 0, 1) := by decide +kernel
theorem dL_law_454 : decode cL_law 454 = .ok (.iload 4, 2) := by decide +kernel
theorem dL_law_456 : decode cL_law 456 = .ok (.iconst 2, 1) := by decide +kernel
theorem dL_law_457 : decode cL_law 457 = .ok (.iadd, 1) := by decide +kernel
theorem dL_law_458 : decode cL_law 458 = .ok (.iaload, 1) := by decide +kernel
theorem dL_law_459 : decode cL_law 459 = .ok (.aload_n 3, 1) := by decide +kernel
theorem dL_law_460 : decode cL_law 460 = .ok (.invokestatic 90, 3) := by decide +kernel
theorem dL_law_463 : decode cL_law 463 = .ok (.istore 5, 2) := by decide +kernel
theorem dL_law_465 : decode cL_law 465 = .ok (.aload_n 2, 1) := by decide +kernel
theorem dL_law_466 : decode cL_law 466 = .ok (.aload_n 0, 1) := by decide +kernel
theorem dL_law_467 : decode cL_law 467 = .ok (.iload 4, 2) := by decide +kernel
theorem dL_law_469 : decode cL_law 469 = .ok (.iconst 1, 1) := by decide +kernel
theorem dL_law_470 : decode cL_law 470 = .ok (.iadd, 1) := by decide +kernel
theorem dL_law_471 : decode cL_law 471 = .ok (.iaload, 1) := by decide +kernel
theorem dL_law_472 : decode cL_law 472 = .ok (.aload_n 0, 1) := by decide +kernel
theorem dL_law_473 : decode cL_law 473 = .ok (.iload 4, 2) := by decide +kernel
theorem dL_law_475 : decode cL_law 475 = .ok (.iconst 2, 1) := by decide +kernel
theorem dL_law_476 : decode cL_law 476 = .ok (.iadd, 1) := by decide +kernel
theorem dL_law_477 : decode cL_law 477 = .ok (.iaload, 1) := by decide +kernel
theorem dL_law_478 : decode cL_law 478 = .ok (.invokevirtual 92, 3) := by decide +kernel
theorem dL_law_481 : decode cL_law 481 = .ok (.istore 6, 2) := by decide +kernel
theorem dL_law_483 : decode cL_law 483 = .ok (.aload_n 2, 1) := by decide +kernel
theorem dL_law_484 : decode cL_law 484 = .ok (.invokevirtual 75, 3) := by decide +kernel
theorem dL_law_487 : decode cL_law 487 = .ok (.iload 5, 2) := by decide +kernel
theorem dL_law_489 : decode cL_law 489 = .ok (.if_icmp .eq 5, 3) := by decide +kernel
theorem dL_law_492 : decode cL_law 492 = .ok (.iconst 0, 1) := by decide +kernel
theorem dL_law_493 : decode cL_law 493 = .ok (.ireturn, 1) := by decide +kernel
theorem dL_law_494 : decode cL_law 494 = .ok (.iload 5, 2) := by decide +kernel
theorem dL_law_496 : decode cL_law 496 = .ok (.ifCond .ne 15, 3) := by decide +kernel
theorem dL_law_499 : decode cL_law 499 = .ok (.aload_n 3, 1) := by decide +kernel
theorem dL_law_500 : decode cL_law 500 = .ok (.iconst 0, 1) := by decide +kernel
theorem dL_law_501 : decode cL_law 501 = .ok (.laload, 1) := by decide +kernel
theorem dL_law_502 : decode cL_law 502 = .ok (.iload 6, 2) := by decide +kernel
theorem dL_law_504 : decode cL_law 504 = .ok (.i2l, 1) := by decide +kernel
theorem dL_law_505 : decode cL_law 505 = .ok (.lcmp, 1) := by decide +kernel
theorem dL_law_506 : decode cL_law 506 = .ok (.ifCond .eq 5, 3) := by decide +kernel
theorem dL_law_509 : decode cL_law 509 = .ok (.iconst 0, 1) := by decide +kernel
theorem dL_law_510 : decode cL_law 510 = .ok (.ireturn, 1) := by decide +kernel
theorem dL_law_511 : decode cL_law 511 = .ok (.goto 626, 3) := by decide +kernel
theorem dL_law_514 : decode cL_law 514 = .ok (.aload_n 1, 1) := by decide +kernel
theorem dL_law_515 : decode cL_law 515 = .ok (.aload_n 3, 1) := by decide +kernel
theorem dL_law_516 : decode cL_law 516 = .ok (.invokestatic 93, 3) := by decide +kernel
theorem dL_law_519 : decode cL_law 519 = .ok (.istore 5, 2) := by decide +kernel
theorem dL_law_521 : decode cL_law 521 = .ok (.aload_n 2, 1) := by decide +kernel
theorem dL_law_522 : decode cL_law 522 = .ok (.invokevirtual 96, 3) := by decide +kernel
theorem dL_law_525 : decode cL_law 525 = .ok (.istore 6, 2) := by decide +kernel
theorem dL_law_527 : decode cL_law 527 = .ok (.aload_n 2, 1) := by decide +kernel
theorem dL_law_528 : decode cL_law 528 = .ok (.invokevirtual 75, 3) := by decide +kernel
theorem dL_law_531 : decode cL_law 531 = .ok (.iload 5, 2) := by decide +kernel
theorem dL_law_533 : decode cL_law 533 = .ok (.if_icmp .eq 5, 3) := by decide +kernel
theorem dL_law_536 : decode cL_law 536 = .ok (.iconst 0, 1) := by decide +kernel
theorem dL_law_537 : decode cL_law 537 = .ok (.ireturn, 1) := by decide +kernel
theorem dL_law_538 : decode cL_law 538 = .ok (.iload 5, 2) := by decide +kernel
theorem dL_law_540 : decode cL_law 540 = .ok (.ifCond .ne 15, 3) := by decide +kernel
theorem dL_law_543 : decode cL_law 543 = .ok (.aload_n 3, 1) := by decide +kernel
theorem dL_law_544 : decode cL_law 544 = .ok (.iconst 0, 1) := by decide +kernel
theorem dL_law_545 : decode cL_law 545 = .ok (.laload, 1) := by decide +kernel
theorem dL_law_546 : decode cL_law 546 = .ok (.iload 6, 2) := by decide +kernel
theorem dL_law_548 : decode cL_law 548 = .ok (.i2l, 1) := by decide +kernel
theorem dL_law_549 : decode cL_law 549 = .ok (.lcmp, 1) := by decide +kernel
theorem dL_law_550 : decode cL_law 550 = .ok (.ifCond .eq 5, 3) := by decide +kernel
theorem dL_law_553 : decode cL_law 553 = .ok (.iconst 0, 1) := by decide +kernel
theorem dL_law_554 : decode cL_law 554 = .ok (.ireturn, 1) := by decide +kernel
theorem dL_law_555 : decode cL_law 555 = .ok (.goto 582, 3) := by decide +kernel
theorem dL_law_558 : decode cL_law 558 = .ok (.aload_n 1, 1) := by decide +kernel
theorem dL_law_559 : decode cL_law 559 = .ok (.invokevirtual 97, 3) := by decide +kernel
theorem dL_law_562 : decode cL_law 562 = .ok (.aload_n 2, 1) := by decide +kernel
theorem dL_law_563 : decode cL_law 563 = .ok (.invokevirtual 100, 3) := by decide +kernel
theorem dL_law_566 : decode cL_law 566 = .ok (.if_icmp .eq 571, 3) := by decide +kernel
theorem dL_law_569 : decode cL_law 569 = .ok (.iconst 0, 1) := by decide +kernel
theorem dL_law_570 : decode cL_law 570 = .ok (.ireturn, 1) := by decide +kernel
theorem dL_law_571 : decode cL_law 571 = .ok (.aload_n 1, 1) := by decide +kernel
theorem dL_law_572 : decode cL_law 572 = .ok (.invokevirtual 101, 3) := by decide +kernel
theorem dL_law_575 : decode cL_law 575 = .ok (.aload_n 2, 1) := by decide +kernel
theorem dL_law_576 : decode cL_law 576 = .ok (.invokevirtual 104, 3) := by decide +kernel
theorem dL_law_579 : decode cL_law 579 = .ok (.if_icmp .eq 558, 3) := by decide +kernel
theorem dL_law_582 : decode cL_law 582 = .ok (.iconst 0, 1) := by decide +kernel
theorem dL_law_583 : decode cL_law 583 = .ok (.ireturn, 1) := by decide +kernel
theorem dL_law_584 : decode cL_law 584 = .ok (.aload_n 1, 1) := by decide +kernel
theorem dL_law_585 : decode cL_law 585 = .ok (.aload_n 0, 1) := by decide +kernel
theorem dL_law_586 : decode cL_law 586 = .ok (.iload 4, 2) := by decide +kernel
theorem dL_law_588 : decode cL_law 588 = .ok (.iconst 1, 1) := by decide +kernel
theorem dL_law_589 : decode cL_law 589 = .ok (.iadd, 1) := by decide +kernel
theorem dL_law_590 : decode cL_law 590 = .ok (.iaload, 1) := by decide +kernel
theorem dL_law_591 : decode cL_law 591 = .ok (.aload_n 3, 1) := by decide +kernel
theorem dL_law_592 : decode cL_law 592 = .ok (.invokestatic 105, 3) := by decide +kernel
theorem dL_law_595 : decode cL_law 595 = .ok (.istore 5, 2) := by decide +kernel
theorem dL_law_597 : decode cL_law 597 = .ok (.aload_n 2, 1) := by decide +kernel
theorem dL_law_598 : decode cL_law 598 = .ok (.aload_n 0, 1) := by decide +kernel
theorem dL_law_599 : decode cL_law 599 = .ok (.iload 4, 2) := by decide +kernel
theorem dL_law_601 : decode cL_law 601 = .ok (.iconst 1, 1) := by decide +kernel
theorem dL_law_602 : decode cL_law 602 = .ok (.iadd, 1) := by decide +kernel
theorem dL_law_603 : decode cL_law 603 = .ok (.iaload, 1) := by decide +kernel
theorem dL_law_604 : decode cL_law 604 = .ok (.invokevirtual 107, 3) := by decide +kernel
theorem dL_law_607 : decode cL_law 607 = .ok (.istore 6, 2) := by decide +kernel
theorem dL_law_609 : decode cL_law 609 = .ok (.aload_n 2, 1) := by decide +kernel
theorem dL_law_610 : decode cL_law 610 = .ok (.invokevirtual 75, 3) := by decide +kernel
theorem dL_law_613 : decode cL_law 613 = .ok (.iload 5, 2) := by decide +kernel
theorem dL_law_615 : decode cL_law 615 = .ok (.if_icmp .eq 5, 3) := by decide +kernel
theorem dL_law_618 : decode cL_law 618 = .ok (.iconst 0, 1) := by decide +kernel
theorem dL_law_619 : decode cL_law 619 = .ok (.ireturn, 1) := by decide +kernel
theorem dL_law_620 : decode cL_law 620 = .ok (.iload 5, 2) := by decide +kernel
theorem dL_law_622 : decode cL_law 622 = .ok (.ifCond .ne 15, 3) := by decide +kernel
theorem dL_law_625 : decode cL_law 625 = .ok (.aload_n 3, 1) := by decide +kernel
theorem dL_law_626 : decode cL_law 626 = .ok (.iconst 0, 1) := by decide +kernel
theorem dL_law_627 : decode cL_law 627 = .ok (.laload, 1) := by decide +kernel
theorem dL_law_628 : decode cL_law 628 = .ok (.iload 6, 2) := by decide +kernel
theorem dL_law_630 : decode cL_law 630 = .ok (.i2l, 1) := by decide +kernel
theorem dL_law_631 : decode cL_law 631 = .ok (.lcmp, 1) := by decide +kernel
theorem dL_law_632 : decode cL_law 632 = .ok (.ifCond .eq 5, 3) := by decide +kernel
theorem dL_law_635 : decode cL_law 635 = .ok (.iconst 0, 1) := by decide +kernel
theorem dL_law_636 : decode cL_law 636 = .ok (.ireturn, 1) := by decide +kernel
theorem dL_law_637 : decode cL_law 637 = .ok (.goto 500, 3) := by decide +kernel
theorem dL_law_640 : decode cL_law 640 = .ok (.aload_n 1, 1) := by decide +kernel
theorem dL_law_641 : decode cL_law 641 = .ok (.aload_n 0, 1) := by decide +kernel
theorem dL_law_642 : decode cL_law 642 = .ok (.iload 4, 2) := by decide +kernel
theorem dL_law_644 : decode cL_law 644 = .ok (.iconst 1, 1) := by decide +kernel
theorem dL_law_645 : decode cL_law 645 = .ok (.iadd, 1) := by decide +kernel
theorem dL_law_646 : decode cL_law 646 = .ok (.iaload, 1) := by decide +kernel
theorem dL_law_647 : decode cL_law 647 = .ok (.aload_n 0, 1) := by decide +kernel
theorem dL_law_648 : decode cL_law 648 = .ok (.iload 4, 2) := by decide +kernel
theorem dL_law_650 : decode cL_law 650 = .ok (.iconst 2, 1) := by decide +kernel
theorem dL_law_651 : decode cL_law 651 = .ok (.iadd, 1) := by decide +kernel
theorem dL_law_652 : decode cL_law 652 = .ok (.iaload, 1) := by decide +kernel
theorem dL_law_653 : decode cL_law 653 = .ok (.aload_n 3, 1) := by decide +kernel
theorem dL_law_654 : decode cL_law 654 = .ok (.invokestatic 108, 3) := by decide +kernel
theorem dL_law_657 : decode cL_law 657 = .ok (.istore 5, 2) := by decide +kernel
theorem dL_law_659 : decode cL_law 659 = .ok (.aload_n 2, 1) := by decide +kernel
theorem dL_law_660 : decode cL_law 660 = .ok (.aload_n 0, 1) := by decide +kernel
theorem dL_law_661 : decode cL_law 661 = .ok (.iload 4, 2) := by decide +kernel
theorem dL_law_663 : decode cL_law 663 = .ok (.iconst 1, 1) := by decide +kernel
theorem dL_law_664 : decode cL_law 664 = .ok (.iadd, 1) := by decide +kernel
theorem dL_law_665 : decode cL_law 665 = .ok (.iaload, 1) := by decide +kernel
theorem dL_law_666 : decode cL_law 666 = .ok (.aload_n 0, 1) := by decide +kernel
theorem dL_law_667 : decode cL_law 667 = .ok (.iload 4, 2) := by decide +kernel
theorem dL_law_669 : decode cL_law 669 = .ok (.iconst 2, 1) := by decide +kernel
theorem dL_law_670 : decode cL_law 670 = .ok (.iadd, 1) := by decide +kernel
theorem dL_law_671 : decode cL_law 671 = .ok (.iaload, 1) := by decide +kernel
theorem dL_law_672 : decode cL_law 672 = .ok (.invokevirtual 110, 3) := by decide +kernel
theorem dL_law_675 : decode cL_law 675 = .ok (.istore 6, 2) := by decide +kernel
theorem dL_law_677 : decode cL_law 677 = .ok (.aload_n 2, 1) := by decide +kernel
theorem dL_law_678 : decode cL_law 678 = .ok (.invokevirtual 75, 3) := by decide +kernel
theorem dL_law_681 : decode cL_law 681 = .ok (.iload 5, 2) := by decide +kernel
theorem dL_law_683 : decode cL_law 683 = .ok (.if_icmp .eq 5, 3) := by decide +kernel
theorem dL_law_686 : decode cL_law 686 = .ok (.iconst 0, 1) := by decide +kernel
theorem dL_law_687 : decode cL_law 687 = .ok (.ireturn, 1) := by decide +kernel
theorem dL_law_688 : decode cL_law 688 = .ok (.iload 5, 2) := by decide +kernel
theorem dL_law_690 : decode cL_law 690 = .ok (.ifCond .ne 15, 3) := by decide +kernel
theorem dL_law_693 : decode cL_law 693 = .ok (.aload_n 3, 1) := by decide +kernel
theorem dL_law_694 : decode cL_law 694 = .ok (.iconst 0, 1) := by decide +kernel
theorem dL_law_695 : decode cL_law 695 = .ok (.laload, 1) := by decide +kernel
theorem dL_law_696 : decode cL_law 696 = .ok (.iload 6, 2) := by decide +kernel
theorem dL_law_698 : decode cL_law 698 = .ok (.i2l, 1) := by decide +kernel
theorem dL_law_699 : decode cL_law 699 = .ok (.lcmp, 1) := by decide +kernel
theorem dL_law_700 : decode cL_law 700 = .ok (.ifCond .eq 5, 3) := by decide +kernel
theorem dL_law_703 : decode cL_law 703 = .ok (.iconst 0, 1) := by decide +kernel
theorem dL_law_704 : decode cL_law 704 = .ok (.ireturn, 1) := by decide +kernel
theorem dL_law_705 : decode cL_law 705 = .ok (.goto 432, 3) := by decide +kernel
theorem dL_law_708 : decode cL_law 708 = .ok (.aload_n 1, 1) := by decide +kernel
theorem dL_law_709 : decode cL_law 709 = .ok (.aload_n 0, 1) := by decide +kernel
theorem dL_law_710 : decode cL_law 710 = .ok (.iload 4, 2) := by decide +kernel
theorem dL_law_712 : decode cL_law 712 = .ok (.iconst 1, 1) := by decide +kernel
theorem dL_law_713 : decode cL_law 713 = .ok (.iadd, 1) := by decide +kernel
theorem dL_law_714 : decode cL_law 714 = .ok (.iaload, 1) := by decide +kernel
theorem dL_law_715 : decode cL_law 715 = .ok (.aload_n 3, 1) := by decide +kernel
theorem dL_law_716 : decode cL_law 716 = .ok (.invokestatic 111, 3) := by decide +kernel
theorem dL_law_719 : decode cL_law 719 = .ok (.istore 5, 2) := by decide +kernel
theorem dL_law_721 : decode cL_law 721 = .ok (.aload_n 2, 1) := by decide +kernel
theorem dL_law_722 : decode cL_law 722 = .ok (.aload_n 0, 1) := by decide +kernel
theorem dL_law_723 : decode cL_law 723 = .ok (.iload 4, 2) := by decide +kernel
theorem dL_law_725 : decode cL_law 725 = .ok (.iconst 1, 1) := by decide +kernel
theorem dL_law_726 : decode cL_law 726 = .ok (.iadd, 1) := by decide +kernel
theorem dL_law_727 : decode cL_law 727 = .ok (.iaload, 1) := by decide +kernel
theorem dL_law_728 : decode cL_law 728 = .ok (.invokevirtual 113, 3) := by decide +kernel
theorem dL_law_731 : decode cL_law 731 = .ok (.istore 6, 2) := by decide +kernel
theorem dL_law_733 : decode cL_law 733 = .ok (.aload_n 2, 1) := by decide +kernel
theorem dL_law_734 : decode cL_law 734 = .ok (.invokevirtual 75, 3) := by decide +kernel
theorem dL_law_737 : decode cL_law 737 = .ok (.iload 5, 2) := by decide +kernel
theorem dL_law_739 : decode cL_law 739 = .ok (.if_icmp .eq 5, 3) := by decide +kernel
theorem dL_law_742 : decode cL_law 742 = .ok (.iconst 0, 1) := by decide +kernel
theorem dL_law_743 : decode cL_law 743 = .ok (.ireturn, 1) := by decide +kernel
theorem dL_law_744 : decode cL_law 744 = .ok (.iload 5, 2) := by decide +kernel
theorem dL_law_746 : decode cL_law 746 = .ok (.ifCond .ne 15, 3) := by decide +kernel
theorem dL_law_749 : decode cL_law 749 = .ok (.aload_n 3, 1) := by decide +kernel
theorem dL_law_750 : decode cL_law 750 = .ok (.iconst 0, 1) := by decide +kernel
theorem dL_law_751 : decode cL_law 751 = .ok (.laload, 1) := by decide +kernel
theorem dL_law_752 : decode cL_law 752 = .ok (.iload 6, 2) := by decide +kernel
theorem dL_law_754 : decode cL_law 754 = .ok (.i2l, 1) := by decide +kernel
theorem dL_law_755 : decode cL_law 755 = .ok (.lcmp, 1) := by decide +kernel
theorem dL_law_756 : decode cL_law 756 = .ok (.ifCond .eq 5, 3) := by decide +kernel
theorem dL_law_759 : decode cL_law 759 = .ok (.iconst 0, 1) := by decide +kernel
theorem dL_law_760 : decode cL_law 760 = .ok (.ireturn, 1) := by decide +kernel
theorem dL_law_761 : decode cL_law 761 = .ok (.goto 376, 3) := by decide +kernel
theorem dL_law_764 : decode cL_law 764 = .ok (.aload_n 1, 1) := by decide +kernel
theorem dL_law_765 : decode cL_law 765 = .ok (.aload_n 0, 1) := by decide +kernel
theorem dL_law_766 : decode cL_law 766 = .ok (.iload 4, 2) := by decide +kernel
theorem dL_law_768 : decode cL_law 768 = .ok (.iconst 1, 1) := by decide +kernel
theorem dL_law_769 : decode cL_law 769 = .ok (.iadd, 1) := by decide +kernel
theorem dL_law_770 : decode cL_law 770 = .ok (.iaload, 1) := by decide +kernel
theorem dL_law_771 : decode cL_law 771 = .ok (.aload_n 3, 1) := by decide +kernel
theorem dL_law_772 : decode cL_law 772 = .ok (.invokestatic 114, 3) := by decide +kernel
theorem dL_law_775 : decode cL_law 775 = .ok (.istore 5, 2) := by decide +kernel
theorem dL_law_777 : decode cL_law 777 = .ok (.aload_n 2, 1) := by decide +kernel
theorem dL_law_778 : decode cL_law 778 = .ok (.aload_n 0, 1) := by decide +kernel
theorem dL_law_779 : decode cL_law 779 = .ok (.iload 4, 2) := by decide +kernel
theorem dL_law_781 : decode cL_law 781 = .ok (.iconst 1, 1) := by decide +kernel
theorem dL_law_782 : decode cL_law 782 = .ok (.iadd, 1) := by decide +kernel
theorem dL_law_783 : decode cL_law 783 = .ok (.iaload, 1) := by decide +kernel
theorem dL_law_784 : decode cL_law 784 = .ok (.invokevirtual 116, 3) := by decide +kernel
theorem dL_law_787 : decode cL_law 787 = .ok (.istore 6, 2) := by decide +kernel
theorem dL_law_789 : decode cL_law 789 = .ok (.aload_n 2, 1) := by decide +kernel
theorem dL_law_790 : decode cL_law 790 = .ok (.invokevirtual 75, 3) := by decide +kernel
theorem dL_law_793 : decode cL_law 793 = .ok (.iload 5, 2) := by decide +kernel
theorem dL_law_795 : decode cL_law 795 = .ok (.if_icmp .eq 5, 3) := by decide +kernel
theorem dL_law_798 : decode cL_law 798 = .ok (.iconst 0, 1) := by decide +kernel
theorem dL_law_799 : decode cL_law 799 = .ok (.ireturn, 1) := by decide +kernel
theorem dL_law_800 : decode cL_law 800 = .ok (.iload 5, 2) := by decide +kernel
theorem dL_law_802 : decode cL_law 802 = .ok (.ifCond .ne 15, 3) := by decide +kernel
theorem dL_law_805 : decode cL_law 805 = .ok (.aload_n 3, 1) := by decide +kernel
theorem dL_law_806 : decode cL_law 806 = .ok (.iconst 0, 1) := by decide +kernel
theorem dL_law_807 : decode cL_law 807 = .ok (.laload, 1) := by decide +kernel
theorem dL_law_808 : decode cL_law 808 = .ok (.iload 6, 2) := by decide +kernel
theorem dL_law_810 : decode cL_law 810 = .ok (.i2l, 1) := by decide +kernel
theorem dL_law_811 : decode cL_law 811 = .ok (.lcmp, 1) := by decide +kernel
theorem dL_law_812 : decode cL_law 812 = .ok (.ifCond .eq 5, 3) := by decide +kernel
theorem dL_law_815 : decode cL_law 815 = .ok (.iconst 0, 1) := by decide +kernel
theorem dL_law_816 : decode cL_law 816 = .ok (.ireturn, 1) := by decide +kernel
theorem dL_law_817 : decode cL_law 817 = .ok (.goto 320, 3) := by decide +kernel
theorem dL_law_820 : decode cL_law 820 = .ok (.aload_n 1, 1) := by decide +kernel
theorem dL_law_821 : decode cL_law 821 = .ok (.aload_n 0, 1) := by decide +kernel
theorem dL_law_822 : decode cL_law 822 = .ok (.iload 4, 2) := by decide +kernel
theorem dL_law_824 : decode cL_law 824 = .ok (.iconst 1, 1) := by decide +kernel
theorem dL_law_825 : decode cL_law 825 = .ok (.iadd, 1) := by decide +kernel
theorem dL_law_826 : decode cL_law 826 = .ok (.iaload, 1) := by decide +kernel
theorem dL_law_827 : decode cL_law 827 = .ok (.aload_n 3, 1) := by decide +kernel
theorem dL_law_828 : decode cL_law 828 = .ok (.invokestatic 117, 3) := by decide +kernel
theorem dL_law_831 : decode cL_law 831 = .ok (.istore 5, 2) := by decide +kernel
theorem dL_law_833 : decode cL_law 833 = .ok (.aload_n 2, 1) := by decide +kernel
theorem dL_law_834 : decode cL_law 834 = .ok (.aload_n 0, 1) := by decide +kernel
theorem dL_law_835 : decode cL_law 835 = .ok (.iload 4, 2) := by decide +kernel
theorem dL_law_837 : decode cL_law 837 = .ok (.iconst 1, 1) := by decide +kernel
theorem dL_law_838 : decode cL_law 838 = .ok (.iadd, 1) := by decide +kernel
theorem dL_law_839 : decode cL_law 839 = .ok (.iaload, 1) := by decide +kernel
theorem dL_law_840 : decode cL_law 840 = .ok (.invokevirtual 119, 3) := by decide +kernel
theorem dL_law_843 : decode cL_law 843 = .ok (.istore 6, 2) := by decide +kernel
theorem dL_law_845 : decode cL_law 845 = .ok (.aload_n 2, 1) := by decide +kernel
theorem dL_law_846 : decode cL_law 846 = .ok (.invokevirtual 75, 3) := by decide +kernel
theorem dL_law_849 : decode cL_law 849 = .ok (.iload 5, 2) := by decide +kernel
theorem dL_law_851 : decode cL_law 851 = .ok (.if_icmp .eq 5, 3) := by decide +kernel
theorem dL_law_854 : decode cL_law 854 = .ok (.iconst 0, 1) := by decide +kernel
theorem dL_law_855 : decode cL_law 855 = .ok (.ireturn, 1) := by decide +kernel
theorem dL_law_856 : decode cL_law 856 = .ok (.iload 5, 2) := by decide +kernel
theorem dL_law_858 : decode cL_law 858 = .ok (.ifCond .ne 15, 3) := by decide +kernel
theorem dL_law_861 : decode cL_law 861 = .ok (.aload_n 3, 1) := by decide +kernel
theorem dL_law_862 : decode cL_law 862 = .ok (.iconst 0, 1) := by decide +kernel
theorem dL_law_863 : decode cL_law 863 = .ok (.laload, 1) := by decide +kernel
theorem dL_law_864 : decode cL_law 864 = .ok (.iload 6, 2) := by decide +kernel
theorem dL_law_866 : decode cL_law 866 = .ok (.i2l, 1) := by decide +kernel
theorem dL_law_867 : decode cL_law 867 = .ok (.lcmp, 1) := by decide +kernel
theorem dL_law_868 : decode cL_law 868 = .ok (.ifCond .eq 5, 3) := by decide +kernel
theorem dL_law_871 : decode cL_law 871 = .ok (.iconst 0, 1) := by decide +kernel
theorem dL_law_872 : decode cL_law 872 = .ok (.ireturn, 1) := by decide +kernel
theorem dL_law_873 : decode cL_law 873 = .ok (.goto 264, 3) := by decide +kernel
theorem dL_law_876 : decode cL_law 876 = .ok (.aload_n 1, 1) := by decide +kernel
theorem dL_law_877 : decode cL_law 877 = .ok (.invokevirtual 120, 3) := by decide +kernel
theorem dL_law_880 : decode cL_law 880 = .ok (.aload_n 2, 1) := by decide +kernel
theorem dL_law_881 : decode cL_law 881 = .ok (.invokevirtual 123, 3) := by decide +kernel
theorem dL_law_884 : decode cL_law 884 = .ok (.if_icmp .eq 253, 3) := by decide +kernel
theorem dL_law_887 : decode cL_law 887 = .ok (.iconst 0, 1) := by decide +kernel
theorem dL_law_888 : decode cL_law 888 = .ok (.ireturn, 1) := by decide +kernel
theorem dL_law_889 : decode cL_law 889 = .ok (.aload_n 1, 1) := by decide +kernel
theorem dL_law_890 : decode cL_law 890 = .ok (.aload_n 0, 1) := by decide +kernel
theorem dL_law_891 : decode cL_law 891 = .ok (.iload 4, 2) := by decide +kernel
theorem dL_law_893 : decode cL_law 893 = .ok (.iconst 1, 1) := by decide +kernel
theorem dL_law_894 : decode cL_law 894 = .ok (.iadd, 1) := by decide +kernel
theorem dL_law_895 : decode cL_law 895 = .ok (.iaload, 1) := by decide +kernel
theorem dL_law_896 : decode cL_law 896 = .ok (.aload_n 0, 1) := by decide +kernel
theorem dL_law_897 : decode cL_law 897 = .ok (.iload 4, 2) := by decide +kernel
theorem dL_law_899 : decode cL_law 899 = .ok (.iconst 2, 1) := by decide +kernel
theorem dL_law_900 : decode cL_law 900 = .ok (.iadd, 1) := by decide +kernel
theorem dL_law_901 : decode cL_law 901 = .ok (.iaload, 1) := by decide +kernel
theorem dL_law_902 : decode cL_law 902 = .ok (.aload_n 3, 1) := by decide +kernel
theorem dL_law_903 : decode cL_law 903 = .ok (.invokestatic 124, 3) := by decide +kernel
theorem dL_law_906 : decode cL_law 906 = .ok (.istore 5, 2) := by decide +kernel
theorem dL_law_908 : decode cL_law 908 = .ok (.aload_n 2, 1) := by decide +kernel
theorem dL_law_909 : decode cL_law 909 = .ok (.aload_n 0, 1) := by decide +kernel
theorem dL_law_910 : decode cL_law 910 = .ok (.iload 4, 2) := by decide +kernel
theorem dL_law_912 : decode cL_law 912 = .ok (.iconst 1, 1) := by decide +kernel
theorem dL_law_913 : decode cL_law 913 = .ok (.iadd, 1) := by decide +kernel
theorem dL_law_914 : decode cL_law 914 = .ok (.iaload, 1) := by decide +kernel
theorem dL_law_915 : decode cL_law 915 = .ok (.aload_n 0, 1) := by decide +kernel
theorem dL_law_916 : decode cL_law 916 = .ok (.iload 4, 2) := by decide +kernel
theorem dL_law_918 : decode cL_law 918 = .ok (.iconst 2, 1) := by decide +kernel
theorem dL_law_919 : decode cL_law 919 = .ok (.iadd, 1) := by decide +kernel
theorem dL_law_920 : decode cL_law 920 = .ok (.iaload, 1) := by decide +kernel
theorem dL_law_921 : decode cL_law 921 = .ok (.invokevirtual 126, 3) := by decide +kernel
theorem dL_law_924 : decode cL_law 924 = .ok (.istore 6, 2) := by decide +kernel
theorem dL_law_926 : decode cL_law 926 = .ok (.aload_n 2, 1) := by decide +kernel
theorem dL_law_927 : decode cL_law 927 = .ok (.invokevirtual 75, 3) := by decide +kernel
theorem dL_law_930 : decode cL_law 930 = .ok (.iload 5, 2) := by decide +kernel
theorem dL_law_932 : decode cL_law 932 = .ok (.if_icmp .eq 5, 3) := by decide +kernel
theorem dL_law_935 : decode cL_law 935 = .ok (.iconst 0, 1) := by decide +kernel
theorem dL_law_936 : decode cL_law 936 = .ok (.ireturn, 1) := by decide +kernel
theorem dL_law_937 : decode cL_law 937 = .ok (.iload 5, 2) := by decide +kernel
theorem dL_law_939 : decode cL_law 939 = .ok (.ifCond .ne 15, 3) := by decide +kernel
theorem dL_law_942 : decode cL_law 942 = .ok (.aload_n 3, 1) := by decide +kernel
theorem dL_law_943 : decode cL_law 943 = .ok (.iconst 0, 1) := by decide +kernel
theorem dL_law_944 : decode cL_law 944 = .ok (.laload, 1) := by decide +kernel
theorem dL_law_945 : decode cL_law 945 = .ok (.iload 6, 2) := by decide +kernel
theorem dL_law_947 : decode cL_law 947 = .ok (.i2l, 1) := by decide +kernel
theorem dL_law_948 : decode cL_law 948 = .ok (.lcmp, 1) := by decide +kernel
theorem dL_law_949 : decode cL_law 949 = .ok (.ifCond .eq 5, 3) := by decide +kernel
theorem dL_law_952 : decode cL_law 952 = .ok (.iconst 0, 1) := by decide +kernel
theorem dL_law_953 : decode cL_law 953 = .ok (.ireturn, 1) := by decide +kernel
theorem dL_law_954 : decode cL_law 954 = .ok (.goto 183, 3) := by decide +kernel
theorem dL_law_957 : decode cL_law 957 = .ok (.aload_n 1, 1) := by decide +kernel
theorem dL_law_958 : decode cL_law 958 = .ok (.aload_n 0, 1) := by decide +kernel
theorem dL_law_959 : decode cL_law 959 = .ok (.iload 4, 2) := by decide +kernel
theorem dL_law_961 : decode cL_law 961 = .ok (.iconst 1, 1) := by decide +kernel
theorem dL_law_962 : decode cL_law 962 = .ok (.iadd, 1) := by decide +kernel
theorem dL_law_963 : decode cL_law 963 = .ok (.iaload, 1) := by decide +kernel
theorem dL_law_964 : decode cL_law 964 = .ok (.aload_n 0, 1) := by decide +kernel
theorem dL_law_965 : decode cL_law 965 = .ok (.iload 4, 2) := by decide +kernel
theorem dL_law_967 : decode cL_law 967 = .ok (.iconst 2, 1) := by decide +kernel
theorem dL_law_968 : decode cL_law 968 = .ok (.iadd, 1) := by decide +kernel
theorem dL_law_969 : decode cL_law 969 = .ok (.iaload, 1) := by decide +kernel
theorem dL_law_970 : decode cL_law 970 = .ok (.aload_n 3, 1) := by decide +kernel
theorem dL_law_971 : decode cL_law 971 = .ok (.invokestatic 127, 3) := by decide +kernel
theorem dL_law_974 : decode cL_law 974 = .ok (.istore 5, 2) := by decide +kernel
theorem dL_law_976 : decode cL_law 976 = .ok (.aload_n 2, 1) := by decide +kernel
theorem dL_law_977 : decode cL_law 977 = .ok (.aload_n 0, 1) := by decide +kernel
theorem dL_law_978 : decode cL_law 978 = .ok (.iload 4, 2) := by decide +kernel
theorem dL_law_980 : decode cL_law 980 = .ok (.iconst 1, 1) := by decide +kernel
theorem dL_law_981 : decode cL_law 981 = .ok (.iadd, 1) := by decide +kernel
theorem dL_law_982 : decode cL_law 982 = .ok (.iaload, 1) := by decide +kernel
theorem dL_law_983 : decode cL_law 983 = .ok (.aload_n 0, 1) := by decide +kernel
theorem dL_law_984 : decode cL_law 984 = .ok (.iload 4, 2) := by decide +kernel
theorem dL_law_986 : decode cL_law 986 = .ok (.iconst 2, 1) := by decide +kernel
theorem dL_law_987 : decode cL_law 987 = .ok (.iadd, 1) := by decide +kernel
theorem dL_law_988 : decode cL_law 988 = .ok (.iaload, 1) := by decide +kernel
theorem dL_law_989 : decode cL_law 989 = .ok (.invokevirtual 129, 3) := by decide +kernel
theorem dL_law_992 : decode cL_law 992 = .ok (.istore 6, 2) := by decide +kernel
theorem dL_law_994 : decode cL_law 994 = .ok (.aload_n 2, 1) := by decide +kernel
theorem dL_law_995 : decode cL_law 995 = .ok (.invokevirtual 75, 3) := by decide +kernel
theorem dL_law_998 : decode cL_law 998 = .ok (.iload 5, 2) := by decide +kernel
theorem dL_law_1000 : decode cL_law 1000 = .ok (.if_icmp .eq 5, 3) := by decide +kernel
theorem dL_law_1003 : decode cL_law 1003 = .ok (.iconst 0, 1) := by decide +kernel
theorem dL_law_1004 : decode cL_law 1004 = .ok (.ireturn, 1) := by decide +kernel
theorem dL_law_1005 : decode cL_law 1005 = .ok (.iload 5, 2) := by decide +kernel
theorem dL_law_1007 : decode cL_law 1007 = .ok (.ifCond .ne 15, 3) := by decide +kernel
theorem dL_law_1010 : decode cL_law 1010 = .ok (.aload_n 3, 1) := by decide +kernel
theorem dL_law_1011 : decode cL_law 1011 = .ok (.iconst 0, 1) := by decide +kernel
theorem dL_law_1012 : decode cL_law 1012 = .ok (.laload, 1) := by decide +kernel
theorem dL_law_1013 : decode cL_law 1013 = .ok (.iload 6, 2) := by decide +kernel
theorem dL_law_1015 : decode cL_law 1015 = .ok (.i2l, 1) := by decide +kernel
theorem dL_law_1016 : decode cL_law 1016 = .ok (.lcmp, 1) := by decide +kernel
theorem dL_law_1017 : decode cL_law 1017 = .ok (.ifCond .eq 5, 3) := by decide +kernel
theorem dL_law_1020 : decode cL_law 1020 = .ok (.iconst 0, 1) := by decide +kernel
theorem dL_law_1021 : decode cL_law 1021 = .ok (.ireturn, 1) := by decide +kernel
theorem dL_law_1022 : decode cL_law 1022 = .ok (.goto 115, 3) := by decide +kernel
theorem dL_law_1025 : decode cL_law 1025 = .ok (.aload_n 1, 1) := by decide +kernel
theorem dL_law_1026 : decode cL_law 1026 = .ok (.aload_n 0, 1) := by decide +kernel
theorem dL_law_1027 : decode cL_law 1027 = .ok (.iload 4, 2) := by decide +kernel
theorem dL_law_1029 : decode cL_law 1029 = .ok (.iconst 1, 1) := by decide +kernel
theorem dL_law_1030 : decode cL_law 1030 = .ok (.iadd, 1) := by decide +kernel
theorem dL_law_1031 : decode cL_law 1031 = .ok (.iaload, 1) := by decide +kernel
theorem dL_law_1032 : decode cL_law 1032 = .ok (.aload_n 3, 1) := by decide +kernel
theorem dL_law_1033 : decode cL_law 1033 = .ok (.invokestatic 130, 3) := by decide +kernel
theorem dL_law_1036 : decode cL_law 1036 = .ok (.istore 5, 2) := by decide +kernel
theorem dL_law_1038 : decode cL_law 1038 = .ok (.aload_n 2, 1) := by decide +kernel
theorem dL_law_1039 : decode cL_law 1039 = .ok (.aload_n 0, 1) := by decide +kernel
theorem dL_law_1040 : decode cL_law 1040 = .ok (.iload 4, 2) := by decide +kernel
theorem dL_law_1042 : decode cL_law 1042 = .ok (.iconst 1, 1) := by decide +kernel
theorem dL_law_1043 : decode cL_law 1043 = .ok (.iadd, 1) := by decide +kernel
theorem dL_law_1044 : decode cL_law 1044 = .ok (.iaload, 1) := by decide +kernel
theorem dL_law_1045 : decode cL_law 1045 = .ok (.invokevirtual 132, 3) := by decide +kernel
theorem dL_law_1048 : decode cL_law 1048 = .ok (.istore 6, 2) := by decide +kernel
theorem dL_law_1050 : decode cL_law 1050 = .ok (.aload_n 2, 1) := by decide +kernel
theorem dL_law_1051 : decode cL_law 1051 = .ok (.invokevirtual 75, 3) := by decide +kernel
theorem dL_law_1054 : decode cL_law 1054 = .ok (.iload 5, 2) := by decide +kernel
theorem dL_law_1056 : decode cL_law 1056 = .ok (.if_icmp .eq 5, 3) := by decide +kernel
theorem dL_law_1059 : decode cL_law 1059 = .ok (.iconst 0, 1) := by decide +kernel
theorem dL_law_1060 : decode cL_law 1060 = .ok (.ireturn, 1) := by decide +kernel
theorem dL_law_1061 : decode cL_law 1061 = .ok (.iload 5, 2) := by decide +kernel
theorem dL_law_1063 : decode cL_law 1063 = .ok (.ifCond .ne 15, 3) := by decide +kernel
theorem dL_law_1066 : decode cL_law 1066 = .ok (.aload_n 3, 1) := by decide +kernel
theorem dL_law_1067 : decode cL_law 1067 = .ok (.iconst 0, 1) := by decide +kernel
theorem dL_law_1068 : decode cL_law 1068 = .ok (.laload, 1) := by decide +kernel
theorem dL_law_1069 : decode cL_law 1069 = .ok (.iload 6, 2) := by decide +kernel
theorem dL_law_1071 : decode cL_law 1071 = .ok (.i2l, 1) := by decide +kernel
theorem dL_law_1072 : decode cL_law 1072 = .ok (.lcmp, 1) := by decide +kernel
theorem dL_law_1073 : decode cL_law 1073 = .ok (.ifCond .eq 5, 3) := by decide +kernel
theorem dL_law_1076 : decode cL_law 1076 = .ok (.iconst 0, 1) := by decide +kernel
theorem dL_law_1077 : decode cL_law 1077 = .ok (.ireturn, 1) := by decide +kernel
theorem dL_law_1078 : decode cL_law 1078 = .ok (.goto 59, 3) := by decide +kernel
theorem dL_law_1081 : decode cL_law 1081 = .ok (.aload_n 1, 1) := by decide +kernel
theorem dL_law_1082 : decode cL_law 1082 = .ok (.aload_n 0, 1) := by decide +kernel
theorem dL_law_1083 : decode cL_law 1083 = .ok (.iload 4, 2) := by decide +kernel
theorem dL_law_1085 : decode cL_law 1085 = .ok (.iconst 1, 1) := by decide +kernel
theorem dL_law_1086 : decode cL_law 1086 = .ok (.iadd, 1) := by decide +kernel
theorem dL_law_1087 : decode cL_law 1087 = .ok (.iaload, 1) := by decide +kernel
theorem dL_law_1088 : decode cL_law 1088 = .ok (.aload_n 3, 1) := by decide +kernel
theorem dL_law_1089 : decode cL_law 1089 = .ok (.invokestatic 133, 3) := by decide +kernel
theorem dL_law_1092 : decode cL_law 1092 = .ok (.istore 5, 2) := by decide +kernel
theorem dL_law_1094 : decode cL_law 1094 = .ok (.aload_n 2, 1) := by decide +kernel
theorem dL_law_1095 : decode cL_law 1095 = .ok (.aload_n 0, 1) := by decide +kernel
theorem dL_law_1096 : decode cL_law 1096 = .ok (.iload 4, 2) := by decide +kernel
theorem dL_law_1098 : decode cL_law 1098 = .ok (.iconst 1, 1) := by decide +kernel
theorem dL_law_1099 : decode cL_law 1099 = .ok (.iadd, 1) := by decide +kernel
theorem dL_law_1100 : decode cL_law 1100 = .ok (.iaload, 1) := by decide +kernel
theorem dL_law_1101 : decode cL_law 1101 = .ok (.invokevirtual 135, 3) := by decide +kernel
theorem dL_law_1104 : decode cL_law 1104 = .ok (.istore 6, 2) := by decide +kernel
theorem dL_law_1106 : decode cL_law 1106 = .ok (.aload_n 2, 1) := by decide +kernel
theorem dL_law_1107 : decode cL_law 1107 = .ok (.invokevirtual 75, 3) := by decide +kernel
theorem dL_law_1110 : decode cL_law 1110 = .ok (.iload 5, 2) := by decide +kernel
theorem dL_law_1112 : decode cL_law 1112 = .ok (.if_icmp .eq 5, 3) := by decide +kernel
theorem dL_law_1115 : decode cL_law 1115 = .ok (.iconst 0, 1) := by decide +kernel
theorem dL_law_1116 : decode cL_law 1116 = .ok (.ireturn, 1) := by decide +kernel
theorem dL_law_1117 : decode cL_law 1117 = .ok (.iload 5, 2) := by decide +kernel
theorem dL_law_1119 : decode cL_law 1119 = .ok (.ifCond .ne 15, 3) := by decide +kernel
theorem dL_law_1122 : decode cL_law 1122 = .ok (.aload_n 3, 1) := by decide +kernel
theorem dL_law_1123 : decode cL_law 1123 = .ok (.iconst 0, 1) := by decide +kernel
theorem dL_law_1124 : decode cL_law 1124 = .ok (.laload, 1) := by decide +kernel
theorem dL_law_1125 : decode cL_law 1125 = .ok (.iload 6, 2) := by decide +kernel
theorem dL_law_1127 : decode cL_law 1127 = .ok (.i2l, 1) := by decide +kernel
theorem dL_law_1128 : decode cL_law 1128 = .ok (.lcmp, 1) := by decide +kernel
theorem dL_law_1129 : decode cL_law 1129 = .ok (.ifCond .eq 5, 3) := by decide +kernel
theorem dL_law_1132 : decode cL_law 1132 = .ok (.iconst 0, 1) := by decide +kernel
theorem dL_law_1133 : decode cL_law 1133 = .ok (.ireturn, 1) := by decide +kernel
theorem dL_law_1134 : decode cL_law 1134 = .ok (.goto 3, 3) := by decide +kernel
theorem dL_law_1137 : decode cL_law 1137 = .ok (.iinc 4 7, 3) := by decide +kernel
theorem dL_law_1140 : decode cL_law 1140 = .ok (.goto (-1117), 3) := by decide +kernel
theorem dL_law_1143 : decode cL_law 1143 = .ok (.iconst 1, 1) := by decide +kernel
theorem dL_law_1144 : decode cL_law 1144 = .ok (.ireturn, 1) := by decide +kernel
end
section
/-! ===== base (mine): abstract states, worlds, words that travel, contracts' forms, rows over them ===== -/
/-- one place of a table of rows -/
def u2 (v : Nat → Nat → Int32) (j k : Nat) (x : Int32) : Nat → Nat → Int32 := fun j' => if j' = j then upd (v j) k x else v j'
theorem u2_s {v : Nat → Nat → Int32} {j k : Nat} {x : Int32} : u2 v j k x j k = x := by simp [u2, upd]
theorem u2_j {v : Nat → Nat → Int32} {j k j' : Nat} {x : Int32} (h : j' ≠ j) : u2 v j k x j' = v j' := if_neg h
theorem u2_k {v : Nat → Nat → Int32} {j k k' : Nat} {x : Int32} (h : k' ≠ k) : u2 v j k x j k' = v j k' := by simp [u2, upd, h]
theorem u2_jk {v : Nat → Nat → Int32} {j k j' k' : Nat} {x : Int32} (h : j' ≠ j ∨ k' ≠ k) : u2 v j k x j' k' = v j' k' := by
  by_cases e : j' = j
  · subst e
    exact u2_k (h.resolve_left (fun z => z rfl))
  · rw [u2_j e]
/-- one row of a table of rows -/
def u1 (v : Nat → Nat → Int32) (j : Nat) (g : Nat → Int32) : Nat → Nat → Int32 := fun j' => if j' = j then g else v j'

/-- the model: its object (a 0), its rows (a k, v k: the row of field k) -/
def mdF (a : Nat → Nat) (v : Nat → Nat → Int32) : List Value := [.int (v 0 0), .int (v 0 1), .ref (a 2), .int (v 0 3), .int (v 0 4), .int (v 0 5), .int (v 0 6), .ref (a 7), .ref (a 8), .ref (a 9), .ref (a 10), .ref (a 11), .ref (a 12), .ref (a 13), .ref (a 14), .ref (a 15), .ref (a 16), .ref (a 17), .ref (a 18), .ref (a 19), .ref (a 20), .ref (a 21)]
def mdW (y : Nat → ClassId) (a : Nat → Nat) (v : Nat → Nat → Int32) : va_W := [(a 0, .inr (3, mdF a v)), (a 2, .inl (y 0, 7, .inl (v 2))), (a 7, .inl (y 0, 24, .inl (v 7))), (a 8, .inl (y 0, 24, .inl (v 8))), (a 9, .inl (y 0, 24, .inl (v 9))), (a 10, .inl (y 0, 24, .inl (v 10))), (a 11, .inl (y 1, 24, .inl (v 11))), (a 12, .inl (y 0, 24, .inl (v 12))), (a 13, .inl (y 0, 144, .inl (v 13))), (a 14, .inl (y 0, 144, .inl (v 14))), (a 15, .inl (y 0, 3, .inl (v 15))), (a 16, .inl (y 0, 6, .inl (v 16))), (a 17, .inl (y 0, 6, .inl (v 17))), (a 18, .inl (y 0, 144, .inl (v 18))), (a 19, .inl (y 0, 144, .inl (v 19))), (a 20, .inl (y 0, 48, .inl (v 20))), (a 21, .inl (y 0, 48, .inl (v 21)))]
/-- the book: its object (a 13), its rows; n loans, loan i at la i 0, its rows at la i 1, la i 2 -/
def bkF (a : Nat → Nat) (b : Nat → Nat → Int32) : List Value := [.ref (a 0), .int (b 13 1), .int (b 13 2), .int (b 13 3), .int (b 13 4), .ref (a 5), .int (b 13 6), .ref (a 7), .ref (a 8), .ref (a 9), .ref (a 10), .ref (a 11), .ref (a 12)]
def lrF (n : Nat) (la : Nat → Nat → Nat) : Nat → Option Nat := fun i => if i < n then some (la i 0) else none
def bkX (y : Nat → ClassId) (a : Nat → Nat) (b : Nat → Nat → Int32) (n : Nat) (la : Nat → Nat → Nat) : va_W := [(a 13, .inr (2, bkF a b)), (a 0, .inl (y 0, 6, .inl (b 0))), (a 5, .inl (y 2, 24, .inr (.inr (.inr (.inr (lrF n la)))))), (a 7, .inl (y 0, 3, .inl (b 7))), (a 8, .inr (1, [.ref (a 14), .ref (a 15)])), (a 14, .inl (y 0, 6, .inl (b 14))), (a 15, .inl (y 0, 6, .inl (b 15))), (a 9, .inl (y 3, 3, .inr (.inr (.inr (.inr (fun i => if i < 3 then some (a (16 + i)) else none)))))), (a 16, .inl (y 0, 47, .inl (b 16))), (a 17, .inl (y 0, 47, .inl (b 17))), (a 18, .inl (y 0, 47, .inl (b 18))), (a 10, .inl (y 3, 3, .inr (.inr (.inr (.inr (fun i => if i < 3 then some (a (19 + i)) else none)))))), (a 19, .inl (y 0, 47, .inl (b 19))), (a 20, .inl (y 0, 47, .inl (b 20))), (a 21, .inl (y 0, 47, .inl (b 21))), (a 11, .inl (y 0, 47, .inl (b 11))), (a 12, .inl (y 0, 47, .inl (b 12)))]
def lnF (la : Nat → Nat → Nat) (L : Nat → Nat → Nat → Int32) (i : Nat) : List Value := [.int (L i 0 0), .int (L i 0 1), .int (L i 0 2), .int (L i 0 3), .int (L i 0 4), .ref (la i 1), .ref (la i 2), .int (L i 0 7)]
def lnC (y : Nat → ClassId) (la : Nat → Nat → Nat) (L : Nat → Nat → Nat → Int32) (i : Nat) : va_W := [(la i 0, .inr (0, lnF la L i)), (la i 1, .inl (y 0, 6, .inl (L i 1))), (la i 2, .inl (y 0, 6, .inl (L i 2)))]
def lnW (y : Nat → ClassId) (la : Nat → Nat → Nat) (L : Nat → Nat → Nat → Int32) : Nat → va_W
  | 0 => []
  | n + 1 => lnW y la L n ++ lnC y la L n
def bkW (y : Nat → ClassId) (a : Nat → Nat) (b : Nat → Nat → Int32) (n : Nat) (la : Nat → Nat → Nat) (L : Nat → Nat → Nat → Int32) : va_W := bkX y a b n la ++ lnW y la L n
theorem lnW_len {y : Nat → ClassId} {la : Nat → Nat → Nat} {L : Nat → Nat → Nat → Int32} : ∀ n : Nat, (lnW y la L n).length = 3 * n
  | 0 => rfl
  | n + 1 => by rw [lnW, List.length_append, lnW_len n]; rfl
theorem lnW_get {y : Nat → ClassId} {la : Nat → Nat → Nat} {L : Nat → Nat → Nat → Int32} {i j : Nat} (hj : j < 3) : ∀ {n : Nat}, i < n → (lnW y la L n)[3 * i + j]? = (lnC y la L i)[j]?
  | 0, h => absurd h (Nat.not_lt_zero _)
  | n + 1, h => by
    rw [lnW]
    by_cases e : i = n
    · subst e
      rw [List.getElem?_append_right (by rw [lnW_len]; omega), lnW_len, show 3 * i + j - 3 * i = j by omega]
    · rw [List.getElem?_append_left (by rw [lnW_len]; omega)]
      exact lnW_get hj (by omega)
theorem bkW_get {y : Nat → ClassId} {a : Nat → Nat} {b : Nat → Nat → Int32} {n : Nat} {la : Nat → Nat → Nat} {L : Nat → Nat → Nat → Int32} {i : Nat} (h : i < n) (j : Nat) (hj : j < 3) : (bkW y a b n la L)[17 + 3 * i + j]? = (lnC y la L i)[j]? := by
  rw [bkW, List.getElem?_append_right (by simp [bkX]; omega), show (bkX y a b n la).length = 17 from rfl, show 17 + 3 * i + j - 17 = 3 * i + j by omega]
  exact lnW_get hj h
theorem lnW_congr {y : Nat → ClassId} {la la' : Nat → Nat → Nat} {L L' : Nat → Nat → Nat → Int32} : ∀ {n : Nat}, (∀ i, i < n → la i = la' i) → (∀ i, i < n → L i = L' i) → lnW y la L n = lnW y la' L' n
  | 0, _, _ => rfl
  | n + 1, h1, h2 => by
    rw [lnW, lnW, lnW_congr (fun i hi => h1 i (by omega)) (fun i hi => h2 i (by omega))]
    simp only [lnC, lnF, h1 n (by omega), h2 n (by omega)]
/-- loan i's count of parts paid -/
def u3 (L : Nat → Nat → Nat → Int32) (i : Nat) (x : Int32) : Nat → Nat → Nat → Int32 := fun i' => if i' = i then u2 (L i) 0 7 x else L i'
theorem lnW_set {y : Nat → ClassId} {la : Nat → Nat → Nat} {L : Nat → Nat → Nat → Int32} {i : Nat} {x : Int32} : ∀ {n : Nat}, i < n → (lnW y la L n).set (3 * i) (la i 0, .inr (0, (lnF la L i).set 7 (.int x))) = lnW y la (u3 L i x) n
  | 0, h => absurd h (Nat.not_lt_zero _)
  | n + 1, h => by
    rw [lnW, lnW]
    by_cases e : i = n
    · subst e
      rw [List.set_append_right _ _ (by rw [lnW_len]; omega), lnW_len, Nat.sub_self, lnW_congr (la' := la) (L' := u3 L i x) (fun _ _ => rfl) (fun j hj => by simp [u3, show j ≠ i by omega])]
      congr 1
      simp [lnC, lnF, u3, u2, upd]
    · rw [List.set_append_left _ _ (by rw [lnW_len]; omega), lnW_set (by omega)]
      congr 1
      simp [lnC, lnF, u3, show n ≠ i by omega]
theorem bkW_set {y : Nat → ClassId} {a : Nat → Nat} {b : Nat → Nat → Int32} {n : Nat} {la : Nat → Nat → Nat} {L : Nat → Nat → Nat → Int32} {i : Nat} {x : Int32} (h : i < n) : (bkW y a b n la L).set (17 + 3 * i) (la i 0, .inr (0, (lnF la L i).set 7 (.int x))) = bkW y a b n la (u3 L i x) := by
  rw [bkW, List.set_append_right _ _ (show 17 ≤ 17 + 3 * i by omega), show (bkX y a b n la).length = 17 from rfl, show 17 + 3 * i - 17 = 3 * i by omega, lnW_set h, bkW]

/-- words of nest mates: they travel with the machine, but are no good words -/
def twH : List Cond := [.methodLinkNest "FundBook" 40 ⟨"FundBook$Replica", "<init>", "()V"⟩ "FundBook", .fieldLinkNest "FundBook" 171 "FundBook$Replica" "amounts" "[I" "FundBook", .methodLinkNest "FundBook" 174 ⟨"FundBook$Replica", "averageRate", "()I"⟩ "FundBook", .methodLinkNest "FundBook" 98 ⟨"FundBook$Loan", "<init>", "(IIIZI[I[I)V"⟩ "FundBook", .fieldLinkNest "FundBook" 201 "FundBook$Loan" "branch" "I" "FundBook", .fieldLinkNest "FundBook" 204 "FundBook$Loan" "product" "I" "FundBook", .fieldLinkNest "FundBook" 111 "FundBook$Loan" "hasOption" "Z" "FundBook", .methodLinkNest "FundBook" 107 ⟨"FundBook$Loan", "unpaid", "()I"⟩ "FundBook", .methodLinkNest "FundBook" 117 ⟨"FundBook$Loan", "settle", "()V"⟩ "FundBook", .methodLinkNest "FundBook" 130 ⟨"FundBook$Replica", "layAll", "(II)V"⟩ "FundBook", .methodLinkNest "FundBook" 158 ⟨"FundBook$Loan", "ownMargin", "()I"⟩ "FundBook", .methodLinkNest "FundBook$Loan" 42 ⟨"FundBook", "forOneMonth", "(J)I"⟩ "FundBook", .methodLinkNest "FundBook" 152 ⟨"FundBook$Loan", "funding", "()I"⟩ "FundBook", .methodLinkNest "FundBook" 155 ⟨"FundBook$Loan", "optionCharge", "()I"⟩ "FundBook", .methodLinkNest "FundBook" 149 ⟨"FundBook$Loan", "customerInterest", "()I"⟩ "FundBook", .methodLinkNest "FundBook" 214 ⟨"FundBook$Loan", "payPart", "()V"⟩ "FundBook", .methodLinkNest "FundBook" 145 ⟨"FundBook$Replica", "lay", "(III)V"⟩ "FundBook", .methodLinkNest "FundBook" 165 ⟨"FundBook$Loan", "partAhead", "(I)I"⟩ "FundBook"]
def twC : List (String × String) := [("java/lang/IndexOutOfBoundsException", "java/lang/IndexOutOfBoundsException"), ("java/lang/IllegalArgumentException", "java/lang/IllegalArgumentException"), ("java/lang/IllegalStateException", "java/lang/IllegalStateException"), ("[I", "java/lang/Cloneable")]
def twS : List (Nat × String) := [(61, "no such term"), (68, "rate out of range"), (71, "deposit rate out of range"), (73, "option rate out of range"), (75, "core share out of range"), (77, "no such branch or product"), (80, "amount out of range"), (82, "months out of range"), (86, "there are 24 loans"), (105, "no such loan"), (115, "it has no option, or is paid back"), (120, "no such branch"), (123, "change out of range"), (125, "balance out of range"), (134, "it is the last month"), (161, "what out of range"), (163, "ahead out of range"), (169, "no such tranche"), (181, "no such branch, or the month has not ended"), (183, "no such product, or the month has not ended"), (185, "the month has not ended")]
def twN : List (String × String) := [("java/lang/IndexOutOfBoundsException", "java/lang/IllegalArgumentException"), ("java/lang/IndexOutOfBoundsException", "java/lang/IllegalStateException"), ("java/lang/IllegalArgumentException", "java/lang/IndexOutOfBoundsException"), ("java/lang/IllegalArgumentException", "java/lang/IllegalStateException"), ("java/lang/IllegalStateException", "java/lang/IndexOutOfBoundsException"), ("java/lang/IllegalStateException", "java/lang/IllegalArgumentException")]
def Tw (U : State) : Prop := (∀ w ∈ twH, w.before #[] U = true) ∧ (∀ q ∈ twC, va_Nw (.castable q.1 q.2) U) ∧ (∀ q ∈ twS, ∃ sa, vk_R RX2 q.1 q.2 sa U) ∧ (∀ q ∈ twN, va_Nc q.1 q.2 U)
theorem Tw.moved {s U : State} (hW : s.WarmedH U.vm) (h : Tw s) : Tw U := by
  refine ⟨fun w hw => ?_, fun q hq => va_Nw.warmC hW (h.2.1 q hq), fun q hq => ?_, fun q hq => (h.2.2.2 q hq).moved hW.alike⟩
  · have hh : ∀ w ∈ twH, w.onTables = true ∧ w.keepsH = true := by decide +kernel
    have h1 := Cond.onTables_warmH (T := U) (args' := #[]) hW (hh w hw).1 (hh w hw).2 (h.1 w hw)
    rwa [State.setVm_self] at h1
  · obtain ⟨sa, hs⟩ := h.2.2.1 q hq
    exact ⟨sa, vk_R.warm hW hs⟩
/-- what the machine knows: the classes of objects and arrays, and the travelling words -/
def tysA (y : Nat → ClassId) : List (ClassId × FieldType) := [(y 0, .int), (y 1, .boolean), (y 2, .object RX0), (y 3, .array .int), (y 4, .long)]
def Kb (G : va_G) (y : Nat → ClassId) (U : State) : Prop := va_K G vwCl (tysA y) U ∧ Tw U
theorem Kb.moved {G : va_G} {y : Nat → ClassId} {s U : State} (hW : s.WarmedH U.vm) (h : Kb G y s) : Kb G y U := ⟨va_K.moved hW.alike h.1, h.2.moved hW⟩
theorem Kb.nw {G : va_G} {y : Nat → ClassId} {s : State} (h : Kb G y s) {w : Cond} (hw : w ∈ twH) : va_Nw w s := h.2.1 w hw
/-- an answer, and nothing changed -/
def QcV (r : Value) : Array Value → State → Outcome → State → Prop := fun _ st o t => o = .returned (some r) ∧ t.heap = st.heap
/-- a read: its start -/
def rP (G : va_G) (y : Nat → ClassId) (av : List Value) (ws : va_W) : Array Value → State → Prop := va_Pc av (fun U => va_P G vwCl ws U.heap ∧ Kb G y U)
theorem rP_bl {G : va_G} {y : Nat → ClassId} {av : List Value} {ws : va_W} : FrameBlind (rP G y av ws) := fun _ U _ _ q => ⟨q.1, q.2.1, Kb.moved (State.WarmedH.refl U) q.2.2⟩
/-- a read of numbers alone -/
def nP (av : List Value) : Array Value → State → Prop := va_Pc av (fun _ => True)
theorem nP_bl {av : List Value} : FrameBlind (nP av) := fun _ _ _ _ q => q
/-- a write: its start, its end -/
def mP (G : va_G) (y : Nat → ClassId) (av : List Value) (ws : va_W) (sz : Nat) : Array Value → State → Prop := va_Pc av (fun U => U.heap.size = sz ∧ va_P G vwCl ws U.heap ∧ Kb G y U ∧ va_D (fun _ => True) ws)
theorem mP_bl {G : va_G} {y : Nat → ClassId} {av : List Value} {ws : va_W} {sz : Nat} : FrameBlind (mP G y av ws sz) := fun _ U _ _ q => ⟨q.1, q.2.1, q.2.2.1, Kb.moved (State.WarmedH.refl U) q.2.2.2.1, q.2.2.2.2⟩
def mQ {S : Type} (G : va_G) (rv : S → Option Value) (post : S → Prop) (ws' : S → va_W) (A : Nat → Prop) : Array Value → State → Outcome → State → Prop := fun _ st oc t => (∃ u : S, oc = .returned (rv u) ∧ post u ∧ va_P G vwCl (ws' u) t.heap ∧ va_D A (ws' u)) ∧ va_F A st t
/-- a write that may throw: the two statics that a throw reads, beside -/
def zU : String := "UNASSIGNED_STACK"
def zN : String := "SUPPRESSED_SENTINEL"
def Zs (A : Nat → Prop) (U : State) (H : Heap) : Prop := vx_Zq Bundle.tN zU Bundle.steD A U H ∧ vx_Zq Bundle.tN zN Bundle.listD A U H
theorem Zs.moved {A : Nat → Prop} {s U : State} {H : Heap} (hv : s.vm.Alike U.vm) (h : Zs A s H) : Zs A U H := ⟨h.1.moved hv, h.2.moved hv⟩
theorem Zs.kept {A : Nat → Prop} {U : State} {H H1 : Heap} (h : Zs A U H) (hq : ∀ a : Nat, a < H.size → ¬ A a → H1[a]? = H[a]?) : Zs A U H1 := ⟨h.1.kept hq, h.2.kept hq⟩
theorem Zs.narrow {A B : Nat → Prop} {U : State} {H : Heap} (h : Zs A U H) (hAB : ∀ q, B q → A q) : Zs B U H := ⟨h.1.narrow hAB, h.2.narrow hAB⟩
def xP (G : va_G) (y : Nat → ClassId) (av : List Value) (ws : va_W) (sz : Nat) : Array Value → State → Prop := va_Pc av (fun U => U.heap.size = sz ∧ va_P G vwCl ws U.heap ∧ Kb G y U ∧ va_D (fun _ => True) ws ∧ Zs (va_A ws sz) U U.heap)
theorem xP_bl {G : va_G} {y : Nat → ClassId} {av : List Value} {ws : va_W} {sz : Nat} : FrameBlind (xP G y av ws sz) := fun _ U _ _ q => ⟨q.1, q.2.1, q.2.2.1, Kb.moved (State.WarmedH.refl U) q.2.2.2.1, q.2.2.2.2.1, Zs.moved (Vm.Alike.refl U.vm) q.2.2.2.2.2⟩
/-- thrown: the class by the code, the world as it was -/
def exN (k : Nat) : String := if k = 1 then "java/lang/IndexOutOfBoundsException" else if k = 2 then "java/lang/IllegalArgumentException" else "java/lang/IllegalStateException"
def xX (G : va_G) (pe : String → Prop) (ws : va_W) (A : Nat → Prop) : String → State → State → Prop := vx_X (fun _ : Unit => True) (fun E _ t => pe E ∧ va_P G vwCl ws t.heap ∧ va_D A ws) A
section BR
variable {p : Program} {l : Launch} {e : Env} {R : Room} {s : State} {m : MethodId} {args : Array Value} {below : List Frame} {meth : Method} {c : Code} {H : Heap} {locs : List Loc} {cells slots : Nat} {Q : State → Prop}
variable {cc : ByteArray} {pc : Nat} {ls : Array Slot} {rest st0 : List Value} {G : va_G} {y : Nat → ClassId} {A A0 A1 : Nat → Prop} {H0 : Heap} {a : Nat → Nat} {mc ms : Nat} {free : Addr → Prop} {ag : Array Value}
theorem lv_topE {x z : Int32} (h : x = z) (k : W p l e R s m args below meth c H locs cells slots Q (F0 m pc ls (.int z :: rest))) : W p l e R s m args below meth c H locs cells slots Q (F0 m pc ls (.int x :: rest)) := h ▸ k
theorem lv_topEl {x z : Int64} (h : x = z) (k : W p l e R s m args below meth c H locs cells slots Q (F0 m pc ls (.long z :: rest))) : W p l e R s m args below meth c H locs cells slots Q (F0 m pc ls (.long x :: rest)) := h ▸ k
theorem caR {r : Value} (hr : va_Run p l e R s m args below meth c H locs cells slots 0 0 (F0 m pc ls st0) rest (QcV r ag) (fun _ => False)) (kk : W p l e R s m args below meth c H locs cells slots Q (F0 m (pc + 3) ls (r :: rest))) : W p l e R s m args below meth c H locs cells slots Q (F0 m pc ls st0) := by
  intro T hT X
  obtain ⟨v, st₀, t, T', L, h0, X', hL, e1, -, ⟨hv, hh⟩, st⟩ := hr T hT X
  cases hv
  obtain ⟨t2, a1, b1⟩ := kk T' (by rw [e1, hh, h0]) (Stand.forget X' (fun q h => (hL q h).elim))
  exact ⟨t2, st t2 a1, b1⟩
theorem caM {S : Type} {rv : S → Option Value} {post : S → Prop} {ws' : S → va_W} (hr : va_Run p l e R s m args below meth c H locs cells slots mc ms (F0 m pc ls st0) rest (mQ G rv post ws' A1 ag) free) (hS : va_S A0 H0 H locs) (hA : ∀ q, A1 q → A0 q) (hf : ∀ q, free q → A0 q)
    (kk : ∀ (u : S) (H1 : Heap) (locs1 : List Loc), post u → va_P G vwCl (ws' u) H1 → va_D A0 (ws' u) → H.size ≤ H1.size → (∀ q : Nat, q < H.size → ¬ A1 q → H1[q]? = H[q]?) → va_S A0 H0 H1 locs1 → W p l e R s m args below meth c H1 locs1 (cells + mc) (slots + ms) Q (F0 m (pc + 3) ls ((rv u).toList ++ rest))) : W p l e R s m args below meth c H locs cells slots Q (F0 m pc ls st0) := by
  intro T hT X
  obtain ⟨v, st₀, t, T', L, h0, X', hL, e1, e2, ⟨⟨u, hv, hp, hb, hd⟩, hz, hk⟩, st⟩ := hr T hT X
  cases hv
  rw [h0] at hz hk
  obtain ⟨t2, a1, b1⟩ := kk u T'.heap (locs ++ L) hp (by rw [e1]; exact hb) (hd.weaken (fun _ _ _ h => hA _ h)) (by rw [e1]; exact hz) (fun q h1 h2 => by rw [e1]; exact hk q h1 h2)
    ⟨Nat.le_trans hS.1 (by rw [e1]; exact hz), fun q h1 h2 => by rw [e1, hk q (Nat.lt_of_lt_of_le h1 hS.1) (fun z => h2 (hA q z))]; exact hS.2.1 q h1 h2, fun q hq => by
      rcases List.mem_append.mp hq with h | h
      · exact hS.2.2 q h
      · exact hf _ (hL q h)⟩ T' rfl X'
  exact ⟨t2, st t2 a1, b1⟩
theorem caX {S : Type} {rv : S → Option Value} {post : S → Prop} {ws' : S → va_W} {pe : String → Prop} {wx : va_W} (hr : vx_Run p l e R s m args below meth c H locs cells slots mc ms (F0 m pc ls st0) rest (mQ G rv post ws' A1 ag) (xX G pe wx A1) free) (hS : va_S A0 H0 H locs) (hA : ∀ q, A1 q → A0 q) (hf : ∀ q, free q → A0 q)
    (kx : ∀ (E : String) (ce : Cell) (q9 : Addr) (H1 : Heap) (locs1 : List Loc), pe E → va_P G vwCl wx H1 → va_D A0 wx → H.size ≤ H1.size → (∀ q : Nat, q < H.size → ¬ A1 q → H1[q]? = H[q]?) → va_S A0 H0 H1 locs1 → H1[q9]? = some ce → ce.vm = .none → s.vm.findClass E = some ce.cls → vx_W p l e R s m args below meth c H1 locs1 (cells + mc) (slots + ms) Q (F0 m pc ls rest) q9)
    (kk : ∀ (u : S) (H1 : Heap) (locs1 : List Loc), post u → va_P G vwCl (ws' u) H1 → va_D A0 (ws' u) → H.size ≤ H1.size → (∀ q : Nat, q < H.size → ¬ A1 q → H1[q]? = H[q]?) → va_S A0 H0 H1 locs1 → W p l e R s m args below meth c H1 locs1 (cells + mc) (slots + ms) Q (F0 m (pc + 3) ls ((rv u).toList ++ rest))) : W p l e R s m args below meth c H locs cells slots Q (F0 m pc ls st0) := by
  intro T hT X
  rcases hr T hT X with ⟨v, st₀, t, T', L, h0, X', hL, e1, e2, ⟨⟨u, hv, hp, hb, hd⟩, hF⟩, st⟩ | ⟨q, st₀, t, T', L, E, ce, h0, X', hL, e1, e2, ⟨u, -, ⟨hp, hb, hd⟩, hF⟩, hce, hcv, hcl, st⟩
  · cases hv
    obtain ⟨k1, k2, k3⟩ := vx_keep h0 e1 hS (fun q _ h => hA q h) hf hL hF
    obtain ⟨t2, a1, b1⟩ := kk u T'.heap (locs ++ L) hp (by rw [e1]; exact hb) (hd.weaken (fun _ _ _ h => hA _ h)) k1 k2 k3 T' rfl X'
    exact ⟨t2, st t2 a1, b1⟩
  · obtain ⟨k1, k2, k3⟩ := vx_keep h0 e1 hS (fun q _ h => hA q h) hf hL hF
    obtain ⟨t2, a1, b1⟩ := kx E ce q T'.heap (locs ++ L) hp (by rw [e1]; exact hb) (hd.weaken (fun _ _ _ h => hA _ h)) k1 k2 k3 (by rw [e1]; exact hce) hcv hcl T' rfl X'
    exact ⟨t2, st.trans a1, b1⟩
/-- an int row: read and written at the place k -/
theorem ldI {ws : va_W} {ad len : Nat} {f : Nat → Int32} {x : Int32} (hexec : p.tables.exec = Jvm.exec) (hb : c.code = cc) (hK : Kb G y s) (hP : va_P G vwCl ws H) (q0 : Nat) (he : ws[q0]? = some (ad, .inl (y 0, len, .inl f))) (k : Nat) (hx : x = nI k) (hk : k < len) (h31 : len < 2 ^ 31) (hdg : decode cc pc = .ok (.iaload, 1))
    (kk : W p l e R s m args below meth c H locs cells slots Q (F0 m (pc + 1) ls (.int (f k) :: rest))) : W p l e R s m args below meth c H locs cells slots Q (F0 m pc ls (.int x :: .ref ad :: rest)) := by
  subst hx
  exact va_iald hexec hb hK.1 hP q0 0 he rfl (vp_in_nI hk h31) hdg (by rw [nI_clamp (Nat.lt_trans hk h31)]; exact kk)
theorem ldZ {ws : va_W} {ad len : Nat} {f : Nat → Int32} {x : Int32} (hexec : p.tables.exec = Jvm.exec) (hb : c.code = cc) (hK : Kb G y s) (hP : va_P G vwCl ws H) (q0 : Nat) (he : ws[q0]? = some (ad, .inl (y 1, len, .inl f))) (k : Nat) (hx : x = nI k) (hk : k < len) (h31 : len < 2 ^ 31) (hdg : decode cc pc = .ok (.baload, 1))
    (kk : W p l e R s m args below meth c H locs cells slots Q (F0 m (pc + 1) ls (.int (f k) :: rest))) : W p l e R s m args below meth c H locs cells slots Q (F0 m pc ls (.int x :: .ref ad :: rest)) := by
  subst hx
  exact va_zald hexec hb hK.1 hP q0 1 he rfl (vp_in_nI hk h31) hdg (by rw [nI_clamp (Nat.lt_trans hk h31)]; exact kk)
theorem ldQ {ws : va_W} {ad len : Nat} {f : Nat → Option Nat} {x : Int32} (hexec : p.tables.exec = Jvm.exec) (hb : c.code = cc) (hK : Kb G y s) (hP : va_P G vwCl ws H) (q0 : Nat) (he : ws[q0]? = some (ad, .inl (y 2, len, .inr (.inr (.inr (.inr f)))))) (k : Nat) (hx : x = nI k) (hk : k < len) (h31 : len < 2 ^ 31) (hdg : decode cc pc = .ok (.aaload, 1))
    (kk : W p l e R s m args below meth c H locs cells slots Q (F0 m (pc + 1) ls (va_rf (f k) :: rest))) : W p l e R s m args below meth c H locs cells slots Q (F0 m pc ls (.int x :: .ref ad :: rest)) := by
  subst hx
  exact va_aldq hexec hb hK.1 hP q0 2 he rfl (vp_in_nI hk h31) hdg (by rw [nI_clamp (Nat.lt_trans hk h31)]; exact kk)
theorem ldA {ws : va_W} {ad len : Nat} {f : Nat → Option Nat} {x : Int32} (hexec : p.tables.exec = Jvm.exec) (hb : c.code = cc) (hK : Kb G y s) (hP : va_P G vwCl ws H) (q0 : Nat) (he : ws[q0]? = some (ad, .inl (y 3, len, .inr (.inr (.inr (.inr f)))))) (k : Nat) (hx : x = nI k) (hk : k < len) (h31 : len < 2 ^ 31) (hdg : decode cc pc = .ok (.aaload, 1))
    (kk : W p l e R s m args below meth c H locs cells slots Q (F0 m (pc + 1) ls (va_rf (f k) :: rest))) : W p l e R s m args below meth c H locs cells slots Q (F0 m pc ls (.int x :: .ref ad :: rest)) := by
  subst hx
  have hin := vp_in_nI hk h31
  have hlt : (nI k).toNatClampNeg < len := Nat.not_le.mp fun q => hin (Or.inr q)
  refine W.aald (v := va_rf (f (nI k).toNatClampNeg)) (ty := .array .int) hexec hb (hP q0 _ he) ((hK.1.2 3 _ rfl).1 len (fun j => va_rf (f j))) rfl (fun q => by cases q) (by show ¬ (nI k < 0 ∨ (arrV _ _ _).slots.size ≤ _); rw [arrV_size]; exact hin) (by show (arrV _ _ _).slots[_]? = _; rw [arrV_read _ _ hlt]) rfl rfl hdg ?_
  rw [nI_clamp (Nat.lt_trans hk h31)]
  exact kk
theorem stI {ws ws1 : va_W} {ad len : Nat} {f : Nat → Int32} {x z : Int32} (hexec : p.tables.exec = Jvm.exec) (hb : c.code = cc) (hK : Kb G y s) (hP : va_P G vwCl ws H) (hD : va_D A ws) (hS : va_S A H0 H locs) (q0 : Nat) (he : ws[q0]? = some (ad, .inl (y 0, len, .inl f))) (k : Nat) (hx : x = nI k) (hk : k < len) (h31 : len < 2 ^ 31) (hw : ws.set q0 (ad, .inl (y 0, len, .inl (upd f k z))) = ws1) (hdg : decode cc pc = .ok (.iastore, 1))
    (kk : ∀ (H1 : Heap) (locs1 : List Loc), va_P G vwCl ws1 H1 → va_D A ws1 → va_S A H0 H1 locs1 → W p l e R s m args below meth c H1 locs1 cells slots Q (F0 m (pc + 1) ls rest)) : W p l e R s m args below meth c H locs cells slots Q (F0 m pc ls (.int z :: .int x :: .ref ad :: rest)) := by
  subst hx
  subst hw
  exact va_iast hexec hb hK.1 hP hD hS q0 0 he rfl (vp_in_nI hk h31) hdg (by rw [nI_clamp (Nat.lt_trans hk h31)]; exact kk)
theorem stZ {ws ws1 : va_W} {ad len : Nat} {f : Nat → Int32} {x z : Int32} (hexec : p.tables.exec = Jvm.exec) (hb : c.code = cc) (hK : Kb G y s) (hP : va_P G vwCl ws H) (hD : va_D A ws) (hS : va_S A H0 H locs) (q0 : Nat) (he : ws[q0]? = some (ad, .inl (y 1, len, .inl f))) (k : Nat) (hx : x = nI k) (hk : k < len) (h31 : len < 2 ^ 31) (hz : z = 0 ∨ z = 1) (hw : ws.set q0 (ad, .inl (y 1, len, .inl (upd f k z))) = ws1) (hdg : decode cc pc = .ok (.bastore, 1))
    (kk : ∀ (H1 : Heap) (locs1 : List Loc), va_P G vwCl ws1 H1 → va_D A ws1 → va_S A H0 H1 locs1 → W p l e R s m args below meth c H1 locs1 cells slots Q (F0 m (pc + 1) ls rest)) : W p l e R s m args below meth c H locs cells slots Q (F0 m pc ls (.int z :: .int x :: .ref ad :: rest)) := by
  subst hx
  subst hw
  exact va_zast hexec hb hK.1 hP hD hS q0 1 he rfl (vp_in_nI hk h31) hdg (by rw [nI_clamp (Nat.lt_trans hk h31), show vp_nar .boolean z = z by rcases hz with rfl | rfl <;> rfl]; exact kk)
/-- the model's fields -/
theorem mdG {Ts : List Cond} {index : Nat} {v : Nat → Nat → Int32} {val : Value} (hexec : p.tables.exec = Jvm.exec) (hb : c.code = cc) (hts : ∀ w ∈ Ts, w.before args s = true) (hin : ∀ w ∈ u_ws RX3 TX3 22, w ∈ Ts) (hown : s.vm.findClass RX3 = some m.cls) (hK : Kb G y s) (hP : va_P G vwCl (mdW y a v) H) (k : Nat) (hk : k < 22) (hlink : (Cond.fieldLink RX3 index (TX3 k).1 (TX3 k).2.1 (TX3 k).2.2.1).before args s = true) (hv : (mdF a v)[k]? = some val) (hdg : decode cc pc = .ok (.getfield index, 3))
    (kk : W p l e R s m args below meth c H locs cells slots Q (F0 m (pc + 3) ls (val :: rest))) : W p l e R s m args below meth c H locs cells slots Q (F0 m pc ls (.ref (a 0) :: rest)) :=
  va_get (ci := 3) (C := RX3) (T := TX3) (N := 22) hexec hb hts hin hown hK.1 hP 0 rfl rfl k hk hlink (fun _ h9 => h9) hv hdg kk
theorem mdS {Ts : List Cond} {index : Nat} {v : Nat → Nat → Int32} {x : Int32} (hexec : p.tables.exec = Jvm.exec) (hb : c.code = cc) (hts : ∀ w ∈ Ts, w.before args s = true) (hin : ∀ w ∈ u_ws RX3 TX3 22, w ∈ Ts) (hown : s.vm.findClass RX3 = some m.cls) (hK : Kb G y s) (hP : va_P G vwCl (mdW y a v) H) (hD : va_D A (mdW y a v)) (hS : va_S A H0 H locs) (k : Nat) (hk : k = 0 ∨ k = 1 ∨ k = 3 ∨ k = 4 ∨ k = 5 ∨ k = 6) (hlink : (Cond.fieldLink RX3 index (TX3 k).1 (TX3 k).2.1 (TX3 k).2.2.1).before args s = true) (hdg : decode cc pc = .ok (.putfield index, 3))
    (kk : ∀ (H1 : Heap) (locs1 : List Loc), va_P G vwCl (mdW y a (u2 v 0 k x)) H1 → va_D A (mdW y a (u2 v 0 k x)) → va_S A H0 H1 locs1 → W p l e R s m args below meth c H1 locs1 cells slots Q (F0 m (pc + 3) ls rest)) : W p l e R s m args below meth c H locs cells slots Q (F0 m pc ls (.int x :: .ref (a 0) :: rest)) := by
  refine va_put (ci := 3) (C := RX3) (T := TX3) (N := 22) (v := .int x) (ty := .int) hexec hb hts hin tyX3 tyX3_ok nmX3 hown hK.1 hP hD hS 0 rfl rfl k (by omega) hlink (fun _ h9 => h9) (by rcases hk with rfl | rfl | rfl | rfl | rfl | rfl <;> rfl) (by rcases hk with rfl | rfl | rfl | rfl | rfl | rfl <;> decide +kernel) rfl rfl (by show k < 22; omega) hdg (fun H1 locs1 h1 h2 h3 => ?_)
  have he : (mdW y a v).set 0 (a 0, .inr (3, (mdF a v).set k (.int x))) = mdW y a (u2 v 0 k x) := by rcases hk with rfl | rfl | rfl | rfl | rfl | rfl <;> rfl
  rw [he] at h1 h2
  exact kk H1 locs1 h1 h2 h3
/-- the book's fields -/
theorem bkG {Ts : List Cond} {index : Nat} {b : Nat → Nat → Int32} {n : Nat} {la : Nat → Nat → Nat} {L : Nat → Nat → Nat → Int32} {val : Value} (hexec : p.tables.exec = Jvm.exec) (hb : c.code = cc) (hts : ∀ w ∈ Ts, w.before args s = true) (hin : ∀ w ∈ u_ws RX2 TX2 13, w ∈ Ts) (hown : s.vm.findClass RX2 = some m.cls) (hK : Kb G y s) (hP : va_P G vwCl (bkW y a b n la L) H) (k : Nat) (hk : k < 13) (hlink : (Cond.fieldLink RX2 index (TX2 k).1 (TX2 k).2.1 (TX2 k).2.2.1).before args s = true) (hv : (bkF a b)[k]? = some val) (hdg : decode cc pc = .ok (.getfield index, 3))
    (kk : W p l e R s m args below meth c H locs cells slots Q (F0 m (pc + 3) ls (val :: rest))) : W p l e R s m args below meth c H locs cells slots Q (F0 m pc ls (.ref (a 13) :: rest)) :=
  va_get (ci := 2) (C := RX2) (T := TX2) (N := 13) hexec hb hts hin hown hK.1 hP 0 rfl rfl k hk hlink (fun _ h9 => h9) hv hdg kk
theorem bkS {Ts : List Cond} {index : Nat} {b : Nat → Nat → Int32} {n : Nat} {la : Nat → Nat → Nat} {L : Nat → Nat → Nat → Int32} {x : Int32} (hexec : p.tables.exec = Jvm.exec) (hb : c.code = cc) (hts : ∀ w ∈ Ts, w.before args s = true) (hin : ∀ w ∈ u_ws RX2 TX2 13, w ∈ Ts) (hown : s.vm.findClass RX2 = some m.cls) (hK : Kb G y s) (hP : va_P G vwCl (bkW y a b n la L) H) (hD : va_D A (bkW y a b n la L)) (hS : va_S A H0 H locs) (k : Nat) (hk : k = 1 ∨ k = 2 ∨ k = 3 ∨ k = 4 ∨ k = 6) (hlink : (Cond.fieldLink RX2 index (TX2 k).1 (TX2 k).2.1 (TX2 k).2.2.1).before args s = true) (hdg : decode cc pc = .ok (.putfield index, 3))
    (kk : ∀ (H1 : Heap) (locs1 : List Loc), va_P G vwCl (bkW y a (u2 b 13 k x) n la L) H1 → va_D A (bkW y a (u2 b 13 k x) n la L) → va_S A H0 H1 locs1 → W p l e R s m args below meth c H1 locs1 cells slots Q (F0 m (pc + 3) ls rest)) : W p l e R s m args below meth c H locs cells slots Q (F0 m pc ls (.int x :: .ref (a 13) :: rest)) := by
  refine va_put (ci := 2) (C := RX2) (T := TX2) (N := 13) (v := .int x) (ty := .int) hexec hb hts hin tyX2 tyX2_ok nmX2 hown hK.1 hP hD hS 0 rfl rfl k (by omega) hlink (fun _ h9 => h9) (by rcases hk with rfl | rfl | rfl | rfl | rfl <;> rfl) (by rcases hk with rfl | rfl | rfl | rfl | rfl <;> decide +kernel) rfl rfl (by show k < 13; omega) hdg (fun H1 locs1 h1 h2 h3 => ?_)
  have he : (bkW y a b n la L).set 0 (a 13, .inr (2, (bkF a b).set k (.int x))) = bkW y a (u2 b 13 k x) n la L := by rcases hk with rfl | rfl | rfl | rfl | rfl <;> rfl
  rw [he] at h1 h2
  exact kk H1 locs1 h1 h2 h3
end BR
end
section
/-! ===== base, second part (mine): loops, numbers, sums ===== -/
abbrev cn (x : Int32) : Nat := x.toNatClampNeg
theorem cl_nI {t : Int32} (h : ¬ t < 0) : t = nI (cn t) := by
  obtain ⟨j, hj, rfl⟩ := nI_of h
  rw [show cn (nI j) = j from nI_clamp hj]
theorem cl_le {t : Int32} {M : Nat} (h0 : ¬ t < 0) (h : ¬ nI M < t) (hM : M < 2 ^ 31) : cn t ≤ M := by
  obtain ⟨j, hj, rfl⟩ := nI_of h0
  rw [show cn (nI j) = j from nI_clamp hj]
  exact Nat.not_lt.mp (fun q => h ((nI_ltI hM hj).mpr q))
theorem cl_lt {t : Int32} {M : Nat} (h0 : ¬ t < 0) (h : ¬ nI M ≤ t) (hM : M < 2 ^ 31) : cn t < M := by
  obtain ⟨j, hj, rfl⟩ := nI_of h0
  rw [show cn (nI j) = j from nI_clamp hj]
  exact Nat.not_le.mp (fun q => h ((nI_leI hM hj).mpr q))
theorem lt_1_0 {t : Int32} (h : ¬ t < 1) : ¬ t < 0 := fun q => h (by
  rw [Int32.lt_iff_toInt_lt] at q ⊢
  exact Int.lt_trans q (by decide))
def S32 (f : Nat → Int32) : Nat → Int32
  | 0 => 0
  | n + 1 => S32 f n + f n
def S64 (f : Nat → Int64) : Nat → Int64
  | 0 => 0
  | n + 1 => S64 f n + f n
def D32 (x : Int32) (f : Nat → Int32) : Nat → Int32
  | 0 => x
  | n + 1 => D32 x f n - f n
theorem S32_congr {f g : Nat → Int32} : ∀ {n : Nat}, (∀ k, k < n → f k = g k) → S32 f n = S32 g n
  | 0, _ => rfl
  | n + 1, h => by rw [S32, S32, S32_congr (fun k hk => h k (by omega)), h n (by omega)]
theorem S64_congr {f g : Nat → Int64} : ∀ {n : Nat}, (∀ k, k < n → f k = g k) → S64 f n = S64 g n
  | 0, _ => rfl
  | n + 1, h => by rw [S64, S64, S64_congr (fun k hk => h k (by omega)), h n (by omega)]
theorem D32_congr {x : Int32} {f g : Nat → Int32} : ∀ {n : Nat}, (∀ k, k < n → f k = g k) → D32 x f n = D32 x g n
  | 0, _ => rfl
  | n + 1, h => by rw [D32, D32, D32_congr (fun k hk => h k (by omega)), h n (by omega)]
theorem freeW {A : Nat → Prop} {ws : va_W} {H0 H : Heap} {locs : List Loc} (hD : va_D A ws) (hS : va_S A H0 H locs) (hA : ∀ q, H0.size ≤ q → A q) : ∀ q, va_A ws H.size q → A q := by
  intro q h
  rcases h with ⟨k, e, h⟩ | h
  · exact hD.2 k (q, e) h
  · exact hA q (Nat.le_trans hS.1 h)
section LOOPS
variable {p : Program} {l : Launch} {e : Env} {R : Room} {s : State} {m : MethodId} {args : Array Value} {below : List Frame} {meth : Method} {c : Code} {H : Heap} {locs : List Loc} {cells slots : Nat} {Q : State → Prop} {head nL : Nat} {ls : Array Slot} {G : va_G} {A : Nat → Prop} {H0 : Heap} {st : List Value}
/-- a loop that leaves the heap as it is -/
theorem loopW (LV : Nat → List (Nat × Value)) (b : Nat) (h0 : lv_has ls nL (LV 0)) (step : ∀ (k : Nat) (ls : Array Slot), k < b → lv_has ls nL (LV k) → (∀ ls' : Array Slot, lv_has ls' nL (LV (k + 1)) → W p l e R s m args below meth c H locs cells slots Q (F0 m head ls' st)) → W p l e R s m args below meth c H locs cells slots Q (F0 m head ls st)) (done : ∀ ls : Array Slot, lv_has ls nL (LV b) → W p l e R s m args below meth c H locs cells slots Q (F0 m head ls st)) : W p l e R s m args below meth c H locs cells slots Q (F0 m head ls st) := by
  have key : ∀ (n k : Nat), k + n = b → ∀ ls : Array Slot, lv_has ls nL (LV k) → W p l e R s m args below meth c H locs cells slots Q (F0 m head ls st) := by
    intro n
    induction n with
    | zero =>
      intro k hk ls hl
      have hk : k = b := by omega
      subst hk
      exact done ls hl
    | succ n ih =>
      intro k hk ls hl
      exact step k ls (by omega) hl (fun ls' hl' => ih (k + 1) (by omega) ls' hl')
  exact key b 0 (Nat.zero_add b) ls h0
/-- a loop from k0 on -/
theorem loopF (LV : Nat → List (Nat × Value)) (k0 b : Nat) (hkb : k0 ≤ b) (h0 : lv_has ls nL (LV k0)) (step : ∀ (k : Nat) (ls : Array Slot), k0 ≤ k → k < b → lv_has ls nL (LV k) → (∀ ls' : Array Slot, lv_has ls' nL (LV (k + 1)) → W p l e R s m args below meth c H locs cells slots Q (F0 m head ls' st)) → W p l e R s m args below meth c H locs cells slots Q (F0 m head ls st)) (done : ∀ ls : Array Slot, lv_has ls nL (LV b) → W p l e R s m args below meth c H locs cells slots Q (F0 m head ls st)) : W p l e R s m args below meth c H locs cells slots Q (F0 m head ls st) := by
  have key : ∀ (n k : Nat), k0 ≤ k → k + n = b → ∀ ls : Array Slot, lv_has ls nL (LV k) → W p l e R s m args below meth c H locs cells slots Q (F0 m head ls st) := by
    intro n
    induction n with
    | zero =>
      intro k hk0 hk ls hl
      have hk : k = b := by omega
      subst hk
      exact done ls hl
    | succ n ih =>
      intro k hk0 hk ls hl
      exact step k ls hk0 (by omega) hl (fun ls' hl' => ih (k + 1) (by omega) (by omega) ls' hl')
  exact key (b - k0) k0 (Nat.le_refl _) (by omega) ls h0
/-- a loop that writes -/
theorem loopM (LV : Nat → List (Nat × Value)) (WS : Nat → va_W) (b : Nat) (hP : va_P G vwCl (WS 0) H) (hD : va_D A (WS 0)) (hS : va_S A H0 H locs) (h0 : lv_has ls nL (LV 0))
    (step : ∀ (k : Nat) (H : Heap) (locs : List Loc) (ls : Array Slot), k < b → va_P G vwCl (WS k) H → va_D A (WS k) → va_S A H0 H locs → lv_has ls nL (LV k) → (∀ (H' : Heap) (locs' : List Loc) (ls' : Array Slot), va_P G vwCl (WS (k + 1)) H' → va_D A (WS (k + 1)) → va_S A H0 H' locs' → lv_has ls' nL (LV (k + 1)) → W p l e R s m args below meth c H' locs' cells slots Q (F0 m head ls' st)) → W p l e R s m args below meth c H locs cells slots Q (F0 m head ls st))
    (done : ∀ (H : Heap) (locs : List Loc) (ls : Array Slot), va_P G vwCl (WS b) H → va_D A (WS b) → va_S A H0 H locs → lv_has ls nL (LV b) → W p l e R s m args below meth c H locs cells slots Q (F0 m head ls st)) : W p l e R s m args below meth c H locs cells slots Q (F0 m head ls st) := by
  have key : ∀ (n k : Nat), k + n = b → ∀ (H : Heap) (locs : List Loc) (ls : Array Slot), va_P G vwCl (WS k) H → va_D A (WS k) → va_S A H0 H locs → lv_has ls nL (LV k) → W p l e R s m args below meth c H locs cells slots Q (F0 m head ls st) := by
    intro n
    induction n with
    | zero =>
      intro k hk H locs ls hP hD hS hl
      have hk : k = b := by omega
      subst hk
      exact done H locs ls hP hD hS hl
    | succ n ih =>
      intro k hk H locs ls hP hD hS hl
      exact step k H locs ls (by omega) hP hD hS hl (fun H' locs' ls' h1 h2 h3 h4 => ih (k + 1) (by omega) H' locs' ls' h1 h2 h3 h4)
  exact key b 0 (Nat.zero_add b) H locs ls hP hD hS h0
end LOOPS
end
section
/-! ===== the model's functions, in words of its rows (mine) ===== -/
def mIn (v lo hi : Int32) : Int32 := if v < lo then 0 else if hi < v then 0 else 1
theorem mIn_T {v lo hi : Int32} (h : ¬ mIn v lo hi = 0) : ¬ v < lo ∧ ¬ hi < v := by
  unfold mIn at h
  by_cases h1 : v < lo
  · rw [if_pos h1] at h; exact absurd rfl h
  · by_cases h2 : hi < v
    · rw [if_neg h1, if_pos h2] at h; exact absurd rfl h
    · exact ⟨h1, h2⟩
theorem mIn_01 {v lo hi : Int32} : mIn v lo hi = 0 ∨ mIn v lo hi = 1 := by
  unfold mIn
  split
  · exact Or.inl rfl
  · split
    · exact Or.inl rfl
    · exact Or.inr rfl
theorem mIn_nar {v lo hi : Int32} : narrow .boolean (.int (mIn v lo hi)) = .int (mIn v lo hi) := by
  rcases mIn_01 (v := v) (lo := lo) (hi := hi) with h | h <;> rw [h] <;> rfl
abbrev MS : Type := Nat → Nat → Int32
def d12 (x : Int64) : Int32 := (x / 120000).toInt32
def mLeft (v : MS) (i : Nat) : Int32 := S32 (fun k => v 13 (6 * i + k)) 6
def mFnd (v : MS) (i : Nat) : Nat → Int64 := fun k => (v 13 (6 * i + k)).toInt64 * (v 14 (6 * i + k)).toInt64
def mFund (v : MS) (i : Nat) : Int32 := d12 (S64 (mFnd v i) 6)
def mCust (v : MS) (i : Nat) : Int32 := d12 ((mLeft v i).toInt64 * (v 9 i).toInt64)
def mOpt (v : MS) (i : Nat) : Int32 := if v 11 i = 0 then 0 else d12 ((mLeft v i).toInt64 * (v 10 i).toInt64)
def mBear (v : MS) (i : Nat) (w : Int32) : Int32 := if w = 0 then mCust v i else if w = 1 then mFund v i else if w = 2 then mOpt v i else mCust v i - mFund v i - mOpt v i
def mCore (v : MS) : Int32 := (S64 (fun k => (v 15 k).toInt64) 3 * (v 0 5).toInt64 / 100).toInt32
def mLay (v : MS) (t : Nat) : MS := u2 (u2 v 16 t (mCore v / 6)) 17 t (v 2 6)
def mRsm (v : MS) : Nat → Int64 := fun k => (v 16 k).toInt64 * (v 17 k).toInt64
def mRal (v : MS) : Nat → Int64 := fun k => (v 16 k).toInt64
def mRep (v : MS) : Int32 := if S64 (mRal v) 6 = 0 then 0 else (S64 (mRsm v) 6 / S64 (mRal v) 6).toInt32
def mOwn (v : MS) (k : Nat) : Int64 := (v 15 k).toInt64 * (v 0 5).toInt64 / 100
def mPaid (v : MS) (k : Nat) : Int32 := d12 (mOwn v k * (mRep v).toInt64 + ((v 15 k).toInt64 - mOwn v k) * (v 2 1).toInt64)
def mPays (v : MS) (k : Nat) : Int32 := d12 ((v 15 k).toInt64 * (v 0 3).toInt64)
/-- the answer's code is set: first to 0 -/
def mT (v : MS) (c : Int32) : MS := u2 v 0 0 c
def mSetCurve (v : MS) (t r : Int32) : MS × Int32 := if mIn t 1 6 = 0 then (mT (mT v 0) 1, 0) else if mIn r 0 5000 = 0 then (mT (mT v 0) 2, 0) else (u2 (mT v 0) 2 (cn t) r, v 2 (cn t))
def mSetRates (v : MS) (d o c : Int32) : MS := if mIn d 0 5000 = 0 ∨ mIn o 0 5000 = 0 ∨ mIn c 0 100 = 0 then mT v 1 else u2 (u2 (u2 (mT v 0) 0 3 d) 0 4 o) 0 5 c
def mPt (am : Int32) (mo k : Nat) : Int32 := if nI mo - 1 ≤ nI k then am - am / nI mo * (nI mo - 1) else am / nI mo
def mLp (w : MS) (n : Nat) (am : Int32) (mo : Nat) : Nat → MS
  | 0 => w
  | k + 1 => u2 (u2 (mLp w n am mo k) 13 (6 * n + k) (mPt am mo k)) 14 (6 * n + k) (w 2 (k + 1))
def mLw (v : MS) (n : Nat) (br pr rt op : Int32) : MS := u2 (u2 (u2 (u2 (u2 (u2 (mT v 0) 7 n br) 8 n pr) 9 n rt) 10 n (v 0 4)) 11 n op) 12 n (v 0 1)
def mLend (v : MS) (n : Nat) (br pr am rt mo op : Int32) : MS × Int32 := if mIn br 0 2 = 0 ∨ mIn pr 0 2 = 0 then (mT (mT v 0) 1, 0) else if mIn am 1 10000000 = 0 ∨ mIn rt 0 5000 = 0 ∨ mIn mo 1 6 = 0 then (mT (mT v 0) 2, 0) else if n = 24 then (mT (mT v 0) 3, 0) else (u2 (mLp (mLw v n br pr rt op) n am (cn mo) (cn mo)) 0 6 (nI (n + 1)), nI n)
def mRz (v : MS) (i : Nat) : Nat → MS
  | 0 => v
  | k + 1 => u2 (mRz v i k) 13 (6 * i + k) 0
def mRepay (v : MS) (n : Nat) (x : Int32) : MS × Int32 := if mIn x 0 (nI n - 1) = 0 then (mT (mT v 0) 1, 0) else if v 11 (cn x) = 0 ∨ mLeft v (cn x) = 0 then (mT (mT v 0) 2, 0) else (mRz (mT v 0) (cn x) 6, mLeft v (cn x))
def mLA (v : MS) : Nat → MS
  | 0 => v
  | k + 1 => mLay (mLA v k) k
def mDep (v : MS) (x ch : Int32) : MS × Int32 := if mIn x 0 2 = 0 then (mT (mT v 0) 1, 0) else if mIn ch (-10000000) 10000000 = 0 then (mT (mT v 0) 2, 0) else if mIn (v 15 (cn x) + ch) 0 10000000 = 0 then (mT (mT v 0) 3, 0) else if v 0 1 = 0 ∧ ¬ ch = 0 then (mLA (u2 (mT v 0) 15 (cn x) (v 15 (cn x) + ch)) 6, v 15 (cn x) + ch) else (u2 (mT v 0) 15 (cn x) (v 15 (cn x) + ch), v 15 (cn x) + ch)
def mC1 (v : MS) (t : Nat) : Nat → MS
  | 0 => v
  | l + 1 => u2 (u2 (mC1 v t l) 18 (3 * t + cn (v 7 l)) (mC1 v t l 18 (3 * t + cn (v 7 l)) + mBear v l 3)) 19 (3 * t + cn (v 8 l)) (mC1 v t l 19 (3 * t + cn (v 8 l)) + mBear v l 3)
def mC2 (w v : MS) (t : Nat) : Nat → MS
  | 0 => w
  | b + 1 => u2 (mC2 w v t b) 18 (3 * t + b) (mC2 w v t b 18 (3 * t + b) + (mPaid v b - mPays v b))
def mC3 (w : MS) (bo : Nat → Nat) (t : Nat) : Nat → MS
  | 0 => w
  | l + 1 => if t - bo l < 6 then u2 (mC3 w bo t l) 13 (6 * l + (t - bo l)) 0 else mC3 w bo t l
def mTr (v : MS) (n : Nat) : Int32 := D32 (S32 (fun l => mBear v l 1 + mBear v l 2) n) (fun b => mPaid v b) 3
def mIt (v : MS) (n : Nat) : Int32 := D32 (S32 (fun l => mBear v l 0) n) (fun b => mPays v b) 3
def mCw (v : MS) (bo : Nat → Nat) (n t : Nat) : MS := u2 (mC3 (u2 (u2 (mC2 (mC1 (mT v 0) t n) v t 3) 20 t (mTr v n)) 21 t (mIt v n)) bo t n) 0 1 (nI (t + 1))
def mClose (v : MS) (bo : Nat → Nat) (n t : Nat) : MS × Int32 := if t = 47 then (mT (mT v 0) 1, 0) else (mLay (mCw v bo n t) ((t + 1) % 6), nI (t + 1))
def mLeftA (v : MS) (n : Nat) (x : Int32) : MS × Int32 := if mIn x 0 (nI n - 1) = 0 then (mT (mT v 0) 1, 0) else (mT v 0, mLeft v (cn x))
def mBears (v : MS) (n : Nat) (x w : Int32) : MS × Int32 := if mIn x 0 (nI n - 1) = 0 then (mT (mT v 0) 1, 0) else if mIn w 0 3 = 0 then (mT (mT v 0) 2, 0) else (mT v 0, mBear v (cn x) w)
def mDuP (v : MS) (bo : Nat → Nat) (k : Nat) : Nat → Int32 := fun l => if k - bo l < 6 then v 13 (6 * l + (k - bo l)) else 0
def mDue (v : MS) (bo : Nat → Nat) (n t : Nat) (x : Int32) : MS × Int32 := if mIn x 0 5 = 0 then (mT (mT v 0) 1, 0) else (mT v 0, S32 (mDuP v bo (t + cn x)) n)
def mBal (v : MS) (x : Int32) : MS × Int32 := if mIn x 0 2 = 0 then (mT (mT v 0) 1, 0) else (mT v 0, v 15 (cn x))
def mTra (v : MS) (x : Int32) : MS × Int32 := if mIn x 0 5 = 0 then (mT (mT v 0) 1, 0) else (mT v 0, v 16 (cn x))
def mMar (v : MS) (t : Nat) (x mo : Int32) : MS × Int32 := if mIn x 0 2 = 0 ∨ mIn mo 0 (nI t - 1) = 0 then (mT (mT v 0) 1, 0) else (mT v 0, v 18 (3 * cn mo + cn x))
def mPro (v : MS) (t : Nat) (x mo : Int32) : MS × Int32 := if mIn x 0 2 = 0 ∨ mIn mo 0 (nI t - 1) = 0 then (mT (mT v 0) 1, 0) else (mT v 0, v 19 (3 * cn mo + cn x))
def mTre (v : MS) (t : Nat) (mo : Int32) : MS × Int32 := if mIn mo 0 (nI t - 1) = 0 then (mT (mT v 0) 1, 0) else (mT v 0, v 20 (cn mo))
def mInt (v : MS) (t : Nat) (mo : Int32) : MS × Int32 := if mIn mo 0 (nI t - 1) = 0 then (mT (mT v 0) 1, 0) else (mT v 0, v 21 (cn mo))
end
section
/-! ===== the model's leaves and sums (printed by a program of mine) ===== -/
theorem iinc1 {k : Nat} : nI k + Int32.ofInt 1 = nI (k + 1) := (nI_succ k).symm
theorem iinc7 {k : Nat} : nI k + Int32.ofInt 7 = nI (k + 7) := by
  rw [show Int32.ofInt 7 = nI 7 from rfl, nI_add]
theorem mg_2 {y : Nat → ClassId} {a : Nat → Nat} {w : MS} : (mdW y a w)[1]? = some (a 2, .inl (y 0, 7, .inl (w 2))) := rfl
theorem ms_2 {y : Nat → ClassId} {a : Nat → Nat} {w : MS} {k : Nat} {z : Int32} : (mdW y a w).set 1 (a 2, .inl (y 0, 7, .inl (upd (w 2) k z))) = mdW y a (u2 w 2 k z) := rfl
theorem mg_7 {y : Nat → ClassId} {a : Nat → Nat} {w : MS} : (mdW y a w)[2]? = some (a 7, .inl (y 0, 24, .inl (w 7))) := rfl
theorem ms_7 {y : Nat → ClassId} {a : Nat → Nat} {w : MS} {k : Nat} {z : Int32} : (mdW y a w).set 2 (a 7, .inl (y 0, 24, .inl (upd (w 7) k z))) = mdW y a (u2 w 7 k z) := rfl
theorem mg_8 {y : Nat → ClassId} {a : Nat → Nat} {w : MS} : (mdW y a w)[3]? = some (a 8, .inl (y 0, 24, .inl (w 8))) := rfl
theorem ms_8 {y : Nat → ClassId} {a : Nat → Nat} {w : MS} {k : Nat} {z : Int32} : (mdW y a w).set 3 (a 8, .inl (y 0, 24, .inl (upd (w 8) k z))) = mdW y a (u2 w 8 k z) := rfl
theorem mg_9 {y : Nat → ClassId} {a : Nat → Nat} {w : MS} : (mdW y a w)[4]? = some (a 9, .inl (y 0, 24, .inl (w 9))) := rfl
theorem ms_9 {y : Nat → ClassId} {a : Nat → Nat} {w : MS} {k : Nat} {z : Int32} : (mdW y a w).set 4 (a 9, .inl (y 0, 24, .inl (upd (w 9) k z))) = mdW y a (u2 w 9 k z) := rfl
theorem mg_10 {y : Nat → ClassId} {a : Nat → Nat} {w : MS} : (mdW y a w)[5]? = some (a 10, .inl (y 0, 24, .inl (w 10))) := rfl
theorem ms_10 {y : Nat → ClassId} {a : Nat → Nat} {w : MS} {k : Nat} {z : Int32} : (mdW y a w).set 5 (a 10, .inl (y 0, 24, .inl (upd (w 10) k z))) = mdW y a (u2 w 10 k z) := rfl
theorem mg_11 {y : Nat → ClassId} {a : Nat → Nat} {w : MS} : (mdW y a w)[6]? = some (a 11, .inl (y 1, 24, .inl (w 11))) := rfl
theorem ms_11 {y : Nat → ClassId} {a : Nat → Nat} {w : MS} {k : Nat} {z : Int32} : (mdW y a w).set 6 (a 11, .inl (y 1, 24, .inl (upd (w 11) k z))) = mdW y a (u2 w 11 k z) := rfl
theorem mg_12 {y : Nat → ClassId} {a : Nat → Nat} {w : MS} : (mdW y a w)[7]? = some (a 12, .inl (y 0, 24, .inl (w 12))) := rfl
theorem ms_12 {y : Nat → ClassId} {a : Nat → Nat} {w : MS} {k : Nat} {z : Int32} : (mdW y a w).set 7 (a 12, .inl (y 0, 24, .inl (upd (w 12) k z))) = mdW y a (u2 w 12 k z) := rfl
theorem mg_13 {y : Nat → ClassId} {a : Nat → Nat} {w : MS} : (mdW y a w)[8]? = some (a 13, .inl (y 0, 144, .inl (w 13))) := rfl
theorem ms_13 {y : Nat → ClassId} {a : Nat → Nat} {w : MS} {k : Nat} {z : Int32} : (mdW y a w).set 8 (a 13, .inl (y 0, 144, .inl (upd (w 13) k z))) = mdW y a (u2 w 13 k z) := rfl
theorem mg_14 {y : Nat → ClassId} {a : Nat → Nat} {w : MS} : (mdW y a w)[9]? = some (a 14, .inl (y 0, 144, .inl (w 14))) := rfl
theorem ms_14 {y : Nat → ClassId} {a : Nat → Nat} {w : MS} {k : Nat} {z : Int32} : (mdW y a w).set 9 (a 14, .inl (y 0, 144, .inl (upd (w 14) k z))) = mdW y a (u2 w 14 k z) := rfl
theorem mg_15 {y : Nat → ClassId} {a : Nat → Nat} {w : MS} : (mdW y a w)[10]? = some (a 15, .inl (y 0, 3, .inl (w 15))) := rfl
theorem ms_15 {y : Nat → ClassId} {a : Nat → Nat} {w : MS} {k : Nat} {z : Int32} : (mdW y a w).set 10 (a 15, .inl (y 0, 3, .inl (upd (w 15) k z))) = mdW y a (u2 w 15 k z) := rfl
theorem mg_16 {y : Nat → ClassId} {a : Nat → Nat} {w : MS} : (mdW y a w)[11]? = some (a 16, .inl (y 0, 6, .inl (w 16))) := rfl
theorem ms_16 {y : Nat → ClassId} {a : Nat → Nat} {w : MS} {k : Nat} {z : Int32} : (mdW y a w).set 11 (a 16, .inl (y 0, 6, .inl (upd (w 16) k z))) = mdW y a (u2 w 16 k z) := rfl
theorem mg_17 {y : Nat → ClassId} {a : Nat → Nat} {w : MS} : (mdW y a w)[12]? = some (a 17, .inl (y 0, 6, .inl (w 17))) := rfl
theorem ms_17 {y : Nat → ClassId} {a : Nat → Nat} {w : MS} {k : Nat} {z : Int32} : (mdW y a w).set 12 (a 17, .inl (y 0, 6, .inl (upd (w 17) k z))) = mdW y a (u2 w 17 k z) := rfl
theorem mg_18 {y : Nat → ClassId} {a : Nat → Nat} {w : MS} : (mdW y a w)[13]? = some (a 18, .inl (y 0, 144, .inl (w 18))) := rfl
theorem ms_18 {y : Nat → ClassId} {a : Nat → Nat} {w : MS} {k : Nat} {z : Int32} : (mdW y a w).set 13 (a 18, .inl (y 0, 144, .inl (upd (w 18) k z))) = mdW y a (u2 w 18 k z) := rfl
theorem mg_19 {y : Nat → ClassId} {a : Nat → Nat} {w : MS} : (mdW y a w)[14]? = some (a 19, .inl (y 0, 144, .inl (w 19))) := rfl
theorem ms_19 {y : Nat → ClassId} {a : Nat → Nat} {w : MS} {k : Nat} {z : Int32} : (mdW y a w).set 14 (a 19, .inl (y 0, 144, .inl (upd (w 19) k z))) = mdW y a (u2 w 19 k z) := rfl
theorem mg_20 {y : Nat → ClassId} {a : Nat → Nat} {w : MS} : (mdW y a w)[15]? = some (a 20, .inl (y 0, 48, .inl (w 20))) := rfl
theorem ms_20 {y : Nat → ClassId} {a : Nat → Nat} {w : MS} {k : Nat} {z : Int32} : (mdW y a w).set 15 (a 20, .inl (y 0, 48, .inl (upd (w 20) k z))) = mdW y a (u2 w 20 k z) := rfl
theorem mg_21 {y : Nat → ClassId} {a : Nat → Nat} {w : MS} : (mdW y a w)[16]? = some (a 21, .inl (y 0, 48, .inl (w 21))) := rfl
theorem ms_21 {y : Nat → ClassId} {a : Nat → Nat} {w : MS} {k : Nat} {z : Int32} : (mdW y a w).set 16 (a 21, .inl (y 0, 48, .inl (upd (w 21) k z))) = mdW y a (u2 w 21 k z) := rfl
theorem ix6 {i k : Nat} : (6 : Int32) * nI i + nI k = nI (6 * i + k) := by rw [show (6 : Int32) = nI 6 from rfl, pk_mul, nI_add]
theorem ix3 {i k : Nat} : (3 : Int32) * nI i + nI k = nI (3 * i + k) := by rw [show (3 : Int32) = nI 3 from rfl, pk_mul, nI_add]
theorem lcmp_eq {x y : Int64} (h : lg_cmp x y = 0) : x = y := by
  unfold lg_cmp at h
  split at h
  · cases h
  · split at h
    · assumption
    · cases h
theorem lcmp_ne {x y : Int64} (h : ¬ lg_cmp x y = 0) : ¬ x = y := fun e => h (by
  subst e
  simp [lg_cmp])
set_option maxHeartbeats 4000000 in
set_option maxRecDepth 100000 in
theorem c_X3_in (l : Launch) (x lo hi : Int32) : Met l yX3_in wsX3_in ({ frames := 0, cells := 0, slots := 0, locals := 0 }) (nP [.int x, .int lo, .int hi]) (QcV (.int (mIn x lo hi))) 0 0 (fun _ => False) := by
  refine Met.ofW (cc := cX3_in) (maxL := 3) (ret := (some .boolean)) (by decide) rfl ?_
  intro p e s m args below meth c s₁ B hml hv
  obtain ⟨rfl, -⟩ := hv
  have hx := B.exec
  have hb := B.bytes
  have hr := B.returns
  have hts := atoms_spec (ws := wsX3_in) B.pre
  have hown : s.vm.findClass RX3 = some m.cls := findClass_of_methodNamed B.named
  have hlocks := B.notSynchronized
  have hl := lv_entry ([.int x, .int lo, .int hi]) (n := 3) (Nat.le_of_ble_eq_true rfl)
  rw [lg_entry_eq]
  generalize (lg_sl ([.int x, .int lo, .int hi]) ++ List.replicate (3 - (lg_sl ([.int x, .int lo, .int hi])).length) Slot.unset).toArray = ls at hl ⊢
  have hl : lv_has ls 3 [(0, .int x), (1, .int lo), (2, .int hi)] := hl
  refine lv_iload_n hx hb dX3_in_0 rfl (lv_at hl 0 rfl) ?_
  refine lv_iload_n hx hb dX3_in_1 rfl (lv_at hl 1 rfl) ?_
  refine lv_icmp_lt (tgt := 14) hx hb dX3_in_2 (by decide) (fun c_2 => ?_) (fun c_2 => ?_)
  · refine lv_iconst (v := 0) hx hb dX3_in_14 (by decide) ?_
    exact W.zret (v := 0) hx hb hr rfl (fun t ht hW => ⟨congrArg (fun z => Outcome.returned (some (.int z))) (by unfold mIn; exact ((if_pos c_2)).symm), ht⟩) t_nil dX3_in_15
  · refine lv_iload_n hx hb dX3_in_5 rfl (lv_at hl 0 rfl) ?_
    refine lv_iload_n hx hb dX3_in_6 rfl (lv_at hl 2 rfl) ?_
    refine lv_icmp_gt (tgt := 14) hx hb dX3_in_7 (by decide) (fun c_7 => ?_) (fun c_7 => ?_)
    · refine lv_iconst (v := 0) hx hb dX3_in_14 (by decide) ?_
      exact W.zret (v := 0) hx hb hr rfl (fun t ht hW => ⟨congrArg (fun z => Outcome.returned (some (.int z))) (by unfold mIn; exact ((if_neg c_2).trans ((if_pos c_7))).symm), ht⟩) t_nil dX3_in_15
    · refine lv_iconst (v := 1) hx hb dX3_in_10 (by decide) ?_
      refine lv_goto (tgt := 15) hx hb dX3_in_11 (by decide) ?_
      exact W.zret (v := 1) hx hb hr rfl (fun t ht hW => ⟨congrArg (fun z => Outcome.returned (some (.int z))) (by unfold mIn; exact ((if_neg c_2).trans ((if_neg c_7))).symm), ht⟩) t_nil dX3_in_15
set_option maxHeartbeats 4000000 in
set_option maxRecDepth 100000 in
theorem c_X3_isBranch (l : Launch) (x : Int32) : Met l yX3_isBranch wsX3_isBranch ({ frames := 1, cells := 0, slots := 0, locals := 22 }) (nP [.int x]) (QcV (.int (mIn x 0 2))) 0 0 (fun _ => False) := by
  refine Met.ofW (cc := cX3_isBranch) (maxL := 1) (ret := (some .boolean)) (by decide) rfl ?_
  intro p e s m args below meth c s₁ B hml hv
  obtain ⟨rfl, -⟩ := hv
  have hx := B.exec
  have hb := B.bytes
  have hr := B.returns
  have hts := atoms_spec (ws := wsX3_isBranch) B.pre
  have hown : s.vm.findClass RX3 = some m.cls := findClass_of_methodNamed B.named
  have hlocks := B.notSynchronized
  have hl := lv_entry ([.int x]) (n := 1) (Nat.le_of_ble_eq_true rfl)
  rw [lg_entry_eq]
  generalize (lg_sl ([.int x]) ++ List.replicate (1 - (lg_sl ([.int x])).length) Slot.unset).toArray = ls at hl ⊢
  have hl : lv_has ls 1 [(0, .int x)] := hl
  refine lv_iload_n hx hb dX3_isBranch_0 rfl (lv_at hl 0 rfl) ?_
  refine lv_iconst (v := 0) hx hb dX3_isBranch_1 (by decide) ?_
  refine lv_iconst (v := 2) hx hb dX3_isBranch_2 (by decide) ?_
  refine caR (r := .int (mIn x 0 2)) (va_runS (As := [.int x, .int 0, .int 2]) (rest := []) ⟨hx, hb, hml, hown, hts⟩ (c_X3_in l x 0 2) (va_cwS 3 hts gX3_isBranch_X3_in rfl rfl rfl (by decide +kernel) ⟨Nat.le_of_ble_eq_true rfl, Nat.le_of_ble_eq_true rfl⟩) ⟨nP_bl, fun _ _ _ => ⟨rfl, trivial⟩⟩ rfl rfl hl.1 rfl (lv_room (Nat.le_of_ble_eq_true rfl)) dX3_isBranch_3 ⟨Nat.le_of_ble_eq_true rfl, Nat.le_of_ble_eq_true rfl⟩) ?_
  exact W.zret (v := mIn x 0 2) hx hb hr mIn_nar (fun t ht hW => ⟨congrArg (fun z => Outcome.returned (some (.int z))) (rfl), ht⟩) t_nil dX3_isBranch_6
set_option maxHeartbeats 4000000 in
set_option maxRecDepth 100000 in
theorem c_X3_isLoan (l : Launch) (G : va_G) (y : Nat → ClassId) (a : Nat → Nat) (v : MS) (x : Int32) : Met l yX3_isLoan wsX3_isLoan ({ frames := 1, cells := 0, slots := 0, locals := 22 }) (rP G y [.ref (a 0), .int x] (mdW y a v)) (QcV (.int (mIn x 0 (v 0 6 - 1)))) 0 0 (fun _ => False) := by
  refine Met.ofW (cc := cX3_isLoan) (maxL := 2) (ret := (some .boolean)) (by decide) rfl ?_
  intro p e s m args below meth c s₁ B hml hv
  obtain ⟨rfl, hP, hK⟩ := hv
  have hx := B.exec
  have hb := B.bytes
  have hr := B.returns
  have hts := atoms_spec (ws := wsX3_isLoan) B.pre
  have hown : s.vm.findClass RX3 = some m.cls := findClass_of_methodNamed B.named
  have hlocks := B.notSynchronized
  have hl := lv_entry ([.ref (a 0), .int x]) (n := 2) (Nat.le_of_ble_eq_true rfl)
  rw [lg_entry_eq]
  generalize (lg_sl ([.ref (a 0), .int x]) ++ List.replicate (2 - (lg_sl ([.ref (a 0), .int x])).length) Slot.unset).toArray = ls at hl ⊢
  have hin3 : ∀ w ∈ wsX30, w ∈ wsX3_isLoan := by decide +kernel
  have hl : lv_has ls 2 [(0, .ref (a 0)), (1, .int x)] := hl
  refine lv_iload_n hx hb dX3_isLoan_0 rfl (lv_at hl 1 rfl) ?_
  refine lv_iconst (v := 0) hx hb dX3_isLoan_1 (by decide) ?_
  refine lv_aload_n hx hb dX3_isLoan_2 rfl (lv_at hl 0 rfl) ?_
  refine mdG (v := v) (val := .int (v 0 6)) hx hb hts hin3 hown hK hP 6 (by decide) (hts (.fieldLink RX3 66 "FundBookModel" "loans" "I") (by decide +kernel)) rfl dX3_isLoan_3 ?_
  refine lv_iconst (v := 1) hx hb dX3_isLoan_6 (by decide) ?_
  refine lv_isub hx hb dX3_isLoan_7 ?_
  refine caR (r := .int (mIn x 0 (v 0 6 - 1))) (va_runS (As := [.int x, .int 0, .int (v 0 6 - 1)]) (rest := []) ⟨hx, hb, hml, hown, hts⟩ (c_X3_in l x 0 (v 0 6 - 1)) (va_cwS 3 hts gX3_isLoan_X3_in rfl rfl rfl (by decide +kernel) ⟨Nat.le_of_ble_eq_true rfl, Nat.le_of_ble_eq_true rfl⟩) ⟨nP_bl, fun _ _ _ => ⟨rfl, trivial⟩⟩ rfl rfl hl.1 rfl (lv_room (Nat.le_of_ble_eq_true rfl)) dX3_isLoan_8 ⟨Nat.le_of_ble_eq_true rfl, Nat.le_of_ble_eq_true rfl⟩) ?_
  exact W.zret (v := mIn x 0 (v 0 6 - 1)) hx hb hr mIn_nar (fun t ht hW => ⟨congrArg (fun z => Outcome.returned (some (.int z))) (rfl), ht⟩) t_nil dX3_isLoan_11
set_option maxHeartbeats 4000000 in
set_option maxRecDepth 100000 in
theorem c_X3_isEnded (l : Launch) (G : va_G) (y : Nat → ClassId) (a : Nat → Nat) (v : MS) (x : Int32) : Met l yX3_isEnded wsX3_isEnded ({ frames := 1, cells := 0, slots := 0, locals := 22 }) (rP G y [.ref (a 0), .int x] (mdW y a v)) (QcV (.int (mIn x 0 (v 0 1 - 1)))) 0 0 (fun _ => False) := by
  refine Met.ofW (cc := cX3_isEnded) (maxL := 2) (ret := (some .boolean)) (by decide) rfl ?_
  intro p e s m args below meth c s₁ B hml hv
  obtain ⟨rfl, hP, hK⟩ := hv
  have hx := B.exec
  have hb := B.bytes
  have hr := B.returns
  have hts := atoms_spec (ws := wsX3_isEnded) B.pre
  have hown : s.vm.findClass RX3 = some m.cls := findClass_of_methodNamed B.named
  have hlocks := B.notSynchronized
  have hl := lv_entry ([.ref (a 0), .int x]) (n := 2) (Nat.le_of_ble_eq_true rfl)
  rw [lg_entry_eq]
  generalize (lg_sl ([.ref (a 0), .int x]) ++ List.replicate (2 - (lg_sl ([.ref (a 0), .int x])).length) Slot.unset).toArray = ls at hl ⊢
  have hin3 : ∀ w ∈ wsX30, w ∈ wsX3_isEnded := by decide +kernel
  have hl : lv_has ls 2 [(0, .ref (a 0)), (1, .int x)] := hl
  refine lv_iload_n hx hb dX3_isEnded_0 rfl (lv_at hl 1 rfl) ?_
  refine lv_iconst (v := 0) hx hb dX3_isEnded_1 (by decide) ?_
  refine lv_aload_n hx hb dX3_isEnded_2 rfl (lv_at hl 0 rfl) ?_
  refine mdG (v := v) (val := .int (v 0 1)) hx hb hts hin3 hown hK hP 1 (by decide) (hts (.fieldLink RX3 73 "FundBookModel" "now" "I") (by decide +kernel)) rfl dX3_isEnded_3 ?_
  refine lv_iconst (v := 1) hx hb dX3_isEnded_6 (by decide) ?_
  refine lv_isub hx hb dX3_isEnded_7 ?_
  refine caR (r := .int (mIn x 0 (v 0 1 - 1))) (va_runS (As := [.int x, .int 0, .int (v 0 1 - 1)]) (rest := []) ⟨hx, hb, hml, hown, hts⟩ (c_X3_in l x 0 (v 0 1 - 1)) (va_cwS 3 hts gX3_isEnded_X3_in rfl rfl rfl (by decide +kernel) ⟨Nat.le_of_ble_eq_true rfl, Nat.le_of_ble_eq_true rfl⟩) ⟨nP_bl, fun _ _ _ => ⟨rfl, trivial⟩⟩ rfl rfl hl.1 rfl (lv_room (Nat.le_of_ble_eq_true rfl)) dX3_isEnded_8 ⟨Nat.le_of_ble_eq_true rfl, Nat.le_of_ble_eq_true rfl⟩) ?_
  exact W.zret (v := mIn x 0 (v 0 1 - 1)) hx hb hr mIn_nar (fun t ht hW => ⟨congrArg (fun z => Outcome.returned (some (.int z))) (rfl), ht⟩) t_nil dX3_isEnded_11
set_option maxHeartbeats 4000000 in
set_option maxRecDepth 100000 in
theorem c_X3_thrown (l : Launch) (G : va_G) (y : Nat → ClassId) (a : Nat → Nat) (v : MS)  : Met l yX3_thrown wsX3_thrown ({ frames := 0, cells := 0, slots := 0, locals := 0 }) (rP G y [.ref (a 0)] (mdW y a v)) (QcV (.int (v 0 0))) 0 0 (fun _ => False) := by
  refine Met.ofW (cc := cX3_thrown) (maxL := 1) (ret := (some .int)) (by decide) rfl ?_
  intro p e s m args below meth c s₁ B hml hv
  obtain ⟨rfl, hP, hK⟩ := hv
  have hx := B.exec
  have hb := B.bytes
  have hr := B.returns
  have hts := atoms_spec (ws := wsX3_thrown) B.pre
  have hown : s.vm.findClass RX3 = some m.cls := findClass_of_methodNamed B.named
  have hlocks := B.notSynchronized
  have hl := lv_entry ([.ref (a 0)]) (n := 1) (Nat.le_of_ble_eq_true rfl)
  rw [lg_entry_eq]
  generalize (lg_sl ([.ref (a 0)]) ++ List.replicate (1 - (lg_sl ([.ref (a 0)])).length) Slot.unset).toArray = ls at hl ⊢
  have hin3 : ∀ w ∈ wsX30, w ∈ wsX3_thrown := by decide +kernel
  have hl : lv_has ls 1 [(0, .ref (a 0))] := hl
  refine lv_aload_n hx hb dX3_thrown_0 rfl (lv_at hl 0 rfl) ?_
  refine mdG (v := v) (val := .int (v 0 0)) hx hb hts hin3 hown hK hP 0 (by decide) (hts (.fieldLink RX3 63 "FundBookModel" "thrown" "I") (by decide +kernel)) rfl dX3_thrown_1 ?_
  exact W.iret (v := v 0 0) hx hb hr (fun t ht hW => ⟨congrArg (fun z => Outcome.returned (some (.int z))) (rfl), ht⟩) t_nil dX3_thrown_4
set_option maxHeartbeats 4000000 in
set_option maxRecDepth 100000 in
theorem c_X3_fails (l : Launch) (G : va_G) (y : Nat → ClassId) (a : Nat → Nat) (v : MS) (sz : Nat) (x : Int32) : Met l yX3_fails wsX3_fails ({ frames := 0, cells := 0, slots := 0, locals := 0 }) (mP G y [.ref (a 0), .int x] (mdW y a v) sz) (mQ G (fun _ : Unit => some (.int (((mT v x, 0) : MS × Int32)).2)) (fun _ => True) (fun _ => mdW y a (((mT v x, 0) : MS × Int32)).1) (va_A (mdW y a v) sz)) 0 0 (va_A (mdW y a v) sz) := by
  refine Met.ofW (cc := cX3_fails) (maxL := 2) (ret := (some .int)) (by decide) rfl ?_
  intro p e s m args below meth c s₁ B hml hv
  obtain ⟨rfl, hsz, hP, hK, hD0⟩ := hv
  have hx := B.exec
  have hb := B.bytes
  have hr := B.returns
  have hts := atoms_spec (ws := wsX3_fails) B.pre
  have hown : s.vm.findClass RX3 = some m.cls := findClass_of_methodNamed B.named
  have hlocks := B.notSynchronized
  subst hsz
  have hD := hD0.self (sz := s.heap.size)
  generalize hAe : va_A (mdW y a v) s.heap.size = A at hD ⊢
  have hA : ∀ q : Nat, s.heap.size ≤ q → A q := fun q h => by rw [← hAe]; exact Or.inr h
  have hS : va_S A s.heap s.heap [] := va_S.rf
  have hP : va_P G vwCl (mdW y a v) s.heap := hP
  have hl := lv_entry ([.ref (a 0), .int x]) (n := 2) (Nat.le_of_ble_eq_true rfl)
  rw [lg_entry_eq]
  generalize (lg_sl ([.ref (a 0), .int x]) ++ List.replicate (2 - (lg_sl ([.ref (a 0), .int x])).length) Slot.unset).toArray = ls at hl ⊢
  have hin3 : ∀ w ∈ wsX30, w ∈ wsX3_fails := by decide +kernel
  have hl : lv_has ls 2 [(0, .ref (a 0)), (1, .int x)] := hl
  refine lv_aload_n hx hb dX3_fails_0 rfl (lv_at hl 0 rfl) ?_
  refine lv_iload_n hx hb dX3_fails_1 rfl (lv_at hl 1 rfl) ?_
  refine mdS (v := v) (x := x) hx hb hts hin3 hown hK hP hD hS 0 (by decide) (hts (.fieldLink RX3 63 "FundBookModel" "thrown" "I") (by decide +kernel)) dX3_fails_2 (fun H locs hP hD hS => ?_)
  refine lv_iconst (v := 0) hx hb dX3_fails_5 (by decide) ?_
  have ev : ((mT v x, 0) : MS × Int32) = ((u2 v 0 0 x), 0) := by rfl
  exact W.iret (v := 0) hx hb hr (fun t ht hW => ⟨⟨(), by rw [ev], trivial, by rw [ht, ev]; exact hP, by rw [ev]; exact hD⟩, hS.F ht⟩) hS.2.2 dX3_fails_6
set_option maxHeartbeats 4000000 in
set_option maxRecDepth 100000 in
theorem c_X3_month (l : Launch) (G : va_G) (y : Nat → ClassId) (a : Nat → Nat) (v : MS) (sz : Nat)  : Met l yX3_month wsX3_month ({ frames := 0, cells := 0, slots := 0, locals := 0 }) (mP G y [.ref (a 0)] (mdW y a v) sz) (mQ G (fun _ : Unit => some (.int (((mT v 0, v 0 1) : MS × Int32)).2)) (fun _ => True) (fun _ => mdW y a (((mT v 0, v 0 1) : MS × Int32)).1) (va_A (mdW y a v) sz)) 0 0 (va_A (mdW y a v) sz) := by
  refine Met.ofW (cc := cX3_month) (maxL := 1) (ret := (some .int)) (by decide) rfl ?_
  intro p e s m args below meth c s₁ B hml hv
  obtain ⟨rfl, hsz, hP, hK, hD0⟩ := hv
  have hx := B.exec
  have hb := B.bytes
  have hr := B.returns
  have hts := atoms_spec (ws := wsX3_month) B.pre
  have hown : s.vm.findClass RX3 = some m.cls := findClass_of_methodNamed B.named
  have hlocks := B.notSynchronized
  subst hsz
  have hD := hD0.self (sz := s.heap.size)
  generalize hAe : va_A (mdW y a v) s.heap.size = A at hD ⊢
  have hA : ∀ q : Nat, s.heap.size ≤ q → A q := fun q h => by rw [← hAe]; exact Or.inr h
  have hS : va_S A s.heap s.heap [] := va_S.rf
  have hP : va_P G vwCl (mdW y a v) s.heap := hP
  have hl := lv_entry ([.ref (a 0)]) (n := 1) (Nat.le_of_ble_eq_true rfl)
  rw [lg_entry_eq]
  generalize (lg_sl ([.ref (a 0)]) ++ List.replicate (1 - (lg_sl ([.ref (a 0)])).length) Slot.unset).toArray = ls at hl ⊢
  have hin3 : ∀ w ∈ wsX30, w ∈ wsX3_month := by decide +kernel
  have hl : lv_has ls 1 [(0, .ref (a 0))] := hl
  refine lv_aload_n hx hb dX3_month_0 rfl (lv_at hl 0 rfl) ?_
  refine lv_iconst (v := 0) hx hb dX3_month_1 (by decide) ?_
  refine mdS (v := v) (x := 0) hx hb hts hin3 hown hK hP hD hS 0 (by decide) (hts (.fieldLink RX3 63 "FundBookModel" "thrown" "I") (by decide +kernel)) dX3_month_2 (fun H locs hP hD hS => ?_)
  refine lv_aload_n hx hb dX3_month_5 rfl (lv_at hl 0 rfl) ?_
  refine mdG (v := (u2 v 0 0 0)) (val := .int (v 0 1)) hx hb hts hin3 hown hK hP 1 (by decide) (hts (.fieldLink RX3 73 "FundBookModel" "now" "I") (by decide +kernel)) rfl dX3_month_6 ?_
  have ev : ((mT v 0, v 0 1) : MS × Int32) = ((u2 v 0 0 0), v 0 1) := by rfl
  exact W.iret (v := v 0 1) hx hb hr (fun t ht hW => ⟨⟨(), by rw [ev], trivial, by rw [ht, ev]; exact hP, by rw [ev]; exact hD⟩, hS.F ht⟩) hS.2.2 dX3_month_9
set_option maxHeartbeats 4000000 in
set_option maxRecDepth 100000 in
theorem c_X3_loans (l : Launch) (G : va_G) (y : Nat → ClassId) (a : Nat → Nat) (v : MS) (sz : Nat)  : Met l yX3_loans wsX3_loans ({ frames := 0, cells := 0, slots := 0, locals := 0 }) (mP G y [.ref (a 0)] (mdW y a v) sz) (mQ G (fun _ : Unit => some (.int (((mT v 0, v 0 6) : MS × Int32)).2)) (fun _ => True) (fun _ => mdW y a (((mT v 0, v 0 6) : MS × Int32)).1) (va_A (mdW y a v) sz)) 0 0 (va_A (mdW y a v) sz) := by
  refine Met.ofW (cc := cX3_loans) (maxL := 1) (ret := (some .int)) (by decide) rfl ?_
  intro p e s m args below meth c s₁ B hml hv
  obtain ⟨rfl, hsz, hP, hK, hD0⟩ := hv
  have hx := B.exec
  have hb := B.bytes
  have hr := B.returns
  have hts := atoms_spec (ws := wsX3_loans) B.pre
  have hown : s.vm.findClass RX3 = some m.cls := findClass_of_methodNamed B.named
  have hlocks := B.notSynchronized
  subst hsz
  have hD := hD0.self (sz := s.heap.size)
  generalize hAe : va_A (mdW y a v) s.heap.size = A at hD ⊢
  have hA : ∀ q : Nat, s.heap.size ≤ q → A q := fun q h => by rw [← hAe]; exact Or.inr h
  have hS : va_S A s.heap s.heap [] := va_S.rf
  have hP : va_P G vwCl (mdW y a v) s.heap := hP
  have hl := lv_entry ([.ref (a 0)]) (n := 1) (Nat.le_of_ble_eq_true rfl)
  rw [lg_entry_eq]
  generalize (lg_sl ([.ref (a 0)]) ++ List.replicate (1 - (lg_sl ([.ref (a 0)])).length) Slot.unset).toArray = ls at hl ⊢
  have hin3 : ∀ w ∈ wsX30, w ∈ wsX3_loans := by decide +kernel
  have hl : lv_has ls 1 [(0, .ref (a 0))] := hl
  refine lv_aload_n hx hb dX3_loans_0 rfl (lv_at hl 0 rfl) ?_
  refine lv_iconst (v := 0) hx hb dX3_loans_1 (by decide) ?_
  refine mdS (v := v) (x := 0) hx hb hts hin3 hown hK hP hD hS 0 (by decide) (hts (.fieldLink RX3 63 "FundBookModel" "thrown" "I") (by decide +kernel)) dX3_loans_2 (fun H locs hP hD hS => ?_)
  refine lv_aload_n hx hb dX3_loans_5 rfl (lv_at hl 0 rfl) ?_
  refine mdG (v := (u2 v 0 0 0)) (val := .int (v 0 6)) hx hb hts hin3 hown hK hP 6 (by decide) (hts (.fieldLink RX3 66 "FundBookModel" "loans" "I") (by decide +kernel)) rfl dX3_loans_6 ?_
  have ev : ((mT v 0, v 0 6) : MS × Int32) = ((u2 v 0 0 0), v 0 6) := by rfl
  exact W.iret (v := v 0 6) hx hb hr (fun t ht hW => ⟨⟨(), by rw [ev], trivial, by rw [ht, ev]; exact hP, by rw [ev]; exact hD⟩, hS.F ht⟩) hS.2.2 dX3_loans_9
set_option maxHeartbeats 4000000 in
set_option maxRecDepth 100000 in
theorem c_X3_leftOf (l : Launch) (G : va_G) (y : Nat → ClassId) (a : Nat → Nat) (v : MS) (i : Nat) (hi : i < 24) : Met l yX3_leftOf wsX3_leftOf ({ frames := 0, cells := 0, slots := 0, locals := 0 }) (rP G y [.ref (a 0), .int (nI i)] (mdW y a v)) (QcV (.int (mLeft v i))) 0 0 (fun _ => False) := by
  refine Met.ofW (cc := cX3_leftOf) (maxL := 4) (ret := (some .int)) (by decide) rfl ?_
  intro p e s m args below meth c s₁ B hml hv
  obtain ⟨rfl, hP, hK⟩ := hv
  have hx := B.exec
  have hb := B.bytes
  have hr := B.returns
  have hts := atoms_spec (ws := wsX3_leftOf) B.pre
  have hown : s.vm.findClass RX3 = some m.cls := findClass_of_methodNamed B.named
  have hlocks := B.notSynchronized
  have hl := lv_entry ([.ref (a 0), .int (nI i)]) (n := 4) (Nat.le_of_ble_eq_true rfl)
  rw [lg_entry_eq]
  generalize (lg_sl ([.ref (a 0), .int (nI i)]) ++ List.replicate (4 - (lg_sl ([.ref (a 0), .int (nI i)])).length) Slot.unset).toArray = ls at hl ⊢
  have hin3 : ∀ w ∈ wsX30, w ∈ wsX3_leftOf := by decide +kernel
  have hl : lv_has ls 4 [(0, .ref (a 0)), (1, .int (nI i))] := hl
  refine lv_iconst (v := 0) hx hb dX3_leftOf_0 (by decide) ?_
  refine lv_istore_n (lv' := [(2, .int 0), (0, .ref (a 0)), (1, .int (nI i))]) hx hb dX3_leftOf_1 rfl hl (by decide) rfl (fun ls hl => ?_)
  refine lv_iconst (v := 0) hx hb dX3_leftOf_2 (by decide) ?_
  refine lv_istore_n (lv' := [(3, .int 0), (2, .int 0), (0, .ref (a 0)), (1, .int (nI i))]) hx hb dX3_leftOf_3 rfl hl (by decide) rfl (fun ls hl => ?_)
  refine loopW (LV := fun k => [(0, .ref (a 0)), (1, .int (nI i)), (2, .int (S32 (fun j => v 13 (6 * i + j)) k)), (3, .int (nI k))]) 6 (lv_sub hl [2, 3, 1, 0] rfl) (fun k ls hk_k hl ih_k => ?_) (fun ls hl => ?_)
  · have hl : lv_has ls 4 [(0, .ref (a 0)), (1, .int (nI i)), (2, .int (S32 (fun j => v 13 (6 * i + j)) k)), (3, .int (nI k))] := hl
    refine lv_iload_n hx hb dX3_leftOf_4 rfl (lv_at hl 3 rfl) ?_
    refine lv_bipush (v := 6) hx hb dX3_leftOf_5 (by decide) ?_
    refine lv_icmp_ge (tgt := 30) hx hb dX3_leftOf_7 (by decide) (fun c_7 => absurd c_7 (nI_ge hk_k (by decide))) (fun c_7 => ?_)
    refine lv_iload_n hx hb dX3_leftOf_10 rfl (lv_at hl 2 rfl) ?_
    refine lv_aload_n hx hb dX3_leftOf_11 rfl (lv_at hl 0 rfl) ?_
    refine mdG (v := v) (val := .ref (a 13)) hx hb hts hin3 hown hK hP 13 (by decide) (hts (.fieldLink RX3 36 "FundBookModel" "part" "[I") (by decide +kernel)) rfl dX3_leftOf_12 ?_
    refine lv_bipush (v := 6) hx hb dX3_leftOf_15 (by decide) ?_
    refine lv_iload_n hx hb dX3_leftOf_17 rfl (lv_at hl 1 rfl) ?_
    refine lv_imul hx hb dX3_leftOf_18 ?_
    refine lv_iload_n hx hb dX3_leftOf_19 rfl (lv_at hl 3 rfl) ?_
    refine lv_iadd hx hb dX3_leftOf_20 ?_
    refine lv_topE (z := nI (6 * i + k)) (ix6) ?_
    refine ldI (f := v 13) hx hb hK hP 8 mg_13 (6 * i + k) rfl (by omega) (by decide) dX3_leftOf_21 ?_
    refine lv_iadd hx hb dX3_leftOf_22 ?_
    refine lv_topE (z := S32 (fun j => v 13 (6 * i + j)) (k + 1)) (rfl) ?_
    refine lv_istore_n (lv' := [(2, .int (S32 (fun j => v 13 (6 * i + j)) (k + 1))), (0, .ref (a 0)), (1, .int (nI i)), (3, .int (nI k))]) hx hb dX3_leftOf_23 rfl hl (by decide) rfl (fun ls hl => ?_)
    refine lv_iinc (v := (nI (k + 1))) (lv' := [(3, .int (nI (k + 1))), (2, .int (S32 (fun j => v 13 (6 * i + j)) (k + 1))), (0, .ref (a 0)), (1, .int (nI i))]) hx hb dX3_leftOf_24 hl (k := 3) rfl iinc1 (by decide) rfl (fun ls hl => ?_)
    refine lv_goto (tgt := 4) hx hb dX3_leftOf_27 (by decide) ?_
    exact ih_k ls (lv_sub hl [2, 3, 1, 0] rfl)
  · have hl : lv_has ls 4 [(0, .ref (a 0)), (1, .int (nI i)), (2, .int (S32 (fun j => v 13 (6 * i + j)) 6)), (3, .int (nI 6))] := hl
    refine lv_iload_n hx hb dX3_leftOf_4 rfl (lv_at hl 3 rfl) ?_
    refine lv_bipush (v := 6) hx hb dX3_leftOf_5 (by decide) ?_
    refine lv_icmp_ge (tgt := 30) hx hb dX3_leftOf_7 (by decide) (fun c_7 => ?_) (fun c_7 => absurd (nI_le (Nat.le_refl 6) (by decide)) c_7)
    refine lv_iload_n hx hb dX3_leftOf_30 rfl (lv_at hl 2 rfl) ?_
    exact W.iret (v := S32 (fun j => v 13 (6 * i + j)) 6) hx hb hr (fun t ht hW => ⟨congrArg (fun z => Outcome.returned (some (.int z))) (rfl), ht⟩) t_nil dX3_leftOf_31
set_option maxHeartbeats 4000000 in
set_option maxRecDepth 100000 in
theorem c_X3_bear (l : Launch) (G : va_G) (y : Nat → ClassId) (a : Nat → Nat) (v : MS) (i : Nat) (hi : i < 24) (w : Int32) : Met l yX3_bear wsX3_bear ({ frames := 1, cells := 0, slots := 0, locals := 23 }) (rP G y [.ref (a 0), .int (nI i), .int w] (mdW y a v)) (QcV (.int (mBear v i w))) 0 0 (fun _ => False) := by
  refine Met.ofW (cc := cX3_bear) (maxL := 10) (ret := (some .int)) (by decide) rfl ?_
  intro p e s m args below meth c s₁ B hml hv
  obtain ⟨rfl, hP, hK⟩ := hv
  have hx := B.exec
  have hb := B.bytes
  have hr := B.returns
  have hts := atoms_spec (ws := wsX3_bear) B.pre
  have hown : s.vm.findClass RX3 = some m.cls := findClass_of_methodNamed B.named
  have hlocks := B.notSynchronized
  have hl := lv_entry ([.ref (a 0), .int (nI i), .int w]) (n := 10) (Nat.le_of_ble_eq_true rfl)
  rw [lg_entry_eq]
  generalize (lg_sl ([.ref (a 0), .int (nI i), .int w]) ++ List.replicate (10 - (lg_sl ([.ref (a 0), .int (nI i), .int w])).length) Slot.unset).toArray = ls at hl ⊢
  have hin3 : ∀ w ∈ wsX30, w ∈ wsX3_bear := by decide +kernel
  have hl : lv_has ls 10 [(0, .ref (a 0)), (1, .int (nI i)), (2, .int w)] := hl
  refine lv_aload_n hx hb dX3_bear_0 rfl (lv_at hl 0 rfl) ?_
  refine lv_iload_n hx hb dX3_bear_1 rfl (lv_at hl 1 rfl) ?_
  refine caR (r := .int (mLeft v i)) (va_runV (As := [.int (nI i)]) (rest := []) ⟨hx, hb, hml, hown, hts⟩ (c_X3_leftOf l G y a v i hi) (cwV 1 hts gX3_bear_X3_leftOf rfl rfl rfl (by decide +kernel) ⟨Nat.le_of_ble_eq_true rfl, Nat.le_of_ble_eq_true rfl⟩) ⟨rP_bl, va_recv hK.1 hP (ci := 3) (q0 := 0) rfl rfl, fun U hU hW => ⟨rfl, by rw [hU]; exact hP, Kb.moved hW hK⟩⟩ rfl rfl hl.1 rfl (lv_room (Nat.le_of_ble_eq_true rfl)) dX3_bear_2 ⟨Nat.le_of_ble_eq_true rfl, Nat.le_of_ble_eq_true rfl⟩) ?_
  refine lv_i2l hx hb dX3_bear_5 rfl ?_
  refine lv_lstore_n (lv' := [(3, .long ((mLeft v i).toInt64)), (0, .ref (a 0)), (1, .int (nI i)), (2, .int w)]) hx hb dX3_bear_6 rfl hl (by decide) rfl (fun ls hl => ?_)
  refine lv_lconst (v := 0) hx hb dX3_bear_7 (by decide) ?_
  refine lv_lstore (lv' := [(5, .long 0), (3, .long ((mLeft v i).toInt64)), (0, .ref (a 0)), (1, .int (nI i)), (2, .int w)]) hx hb dX3_bear_8 hl (by decide) rfl (fun ls hl => ?_)
  refine lv_iconst (v := 0) hx hb dX3_bear_10 (by decide) ?_
  refine lv_istore (lv' := [(7, .int 0), (5, .long 0), (3, .long ((mLeft v i).toInt64)), (0, .ref (a 0)), (1, .int (nI i)), (2, .int w)]) hx hb dX3_bear_11 hl (by decide) rfl (fun ls hl => ?_)
  refine loopW (LV := fun k => [(0, .ref (a 0)), (1, .int (nI i)), (2, .int w), (3, .long ((mLeft v i).toInt64)), (5, .long (S64 (mFnd v i) k)), (7, .int (nI k))]) 6 (lv_sub hl [3, 4, 5, 2, 1, 0] rfl) (fun k ls hk_k hl ih_k => ?_) (fun ls hl => ?_)
  · have hl : lv_has ls 10 [(0, .ref (a 0)), (1, .int (nI i)), (2, .int w), (3, .long ((mLeft v i).toInt64)), (5, .long (S64 (mFnd v i) k)), (7, .int (nI k))] := hl
    refine lv_iload hx hb dX3_bear_13 (lv_at hl 5 rfl) ?_
    refine lv_bipush (v := 6) hx hb dX3_bear_15 (by decide) ?_
    refine lv_icmp_ge (tgt := 58) hx hb dX3_bear_17 (by decide) (fun c_17 => absurd c_17 (nI_ge hk_k (by decide))) (fun c_17 => ?_)
    refine lv_lload hx hb dX3_bear_20 (lv_at hl 4 rfl) ?_
    refine lv_aload_n hx hb dX3_bear_22 rfl (lv_at hl 0 rfl) ?_
    refine mdG (v := v) (val := .ref (a 13)) hx hb hts hin3 hown hK hP 13 (by decide) (hts (.fieldLink RX3 36 "FundBookModel" "part" "[I") (by decide +kernel)) rfl dX3_bear_23 ?_
    refine lv_bipush (v := 6) hx hb dX3_bear_26 (by decide) ?_
    refine lv_iload_n hx hb dX3_bear_28 rfl (lv_at hl 1 rfl) ?_
    refine lv_imul hx hb dX3_bear_29 ?_
    refine lv_iload hx hb dX3_bear_30 (lv_at hl 5 rfl) ?_
    refine lv_iadd hx hb dX3_bear_32 ?_
    refine lv_topE (z := nI (6 * i + k)) (ix6) ?_
    refine ldI (f := v 13) hx hb hK hP 8 mg_13 (6 * i + k) rfl (by omega) (by decide) dX3_bear_33 ?_
    refine lv_i2l hx hb dX3_bear_34 rfl ?_
    refine lv_aload_n hx hb dX3_bear_35 rfl (lv_at hl 0 rfl) ?_
    refine mdG (v := v) (val := .ref (a 14)) hx hb hts hin3 hown hK hP 14 (by decide) (hts (.fieldLink RX3 39 "FundBookModel" "funded" "[I") (by decide +kernel)) rfl dX3_bear_36 ?_
    refine lv_bipush (v := 6) hx hb dX3_bear_39 (by decide) ?_
    refine lv_iload_n hx hb dX3_bear_41 rfl (lv_at hl 1 rfl) ?_
    refine lv_imul hx hb dX3_bear_42 ?_
    refine lv_iload hx hb dX3_bear_43 (lv_at hl 5 rfl) ?_
    refine lv_iadd hx hb dX3_bear_45 ?_
    refine lv_topE (z := nI (6 * i + k)) (ix6) ?_
    refine ldI (f := v 14) hx hb hK hP 9 mg_14 (6 * i + k) rfl (by omega) (by decide) dX3_bear_46 ?_
    refine lv_i2l hx hb dX3_bear_47 rfl ?_
    refine lv_lmul hx hb dX3_bear_48 ?_
    refine lv_ladd hx hb dX3_bear_49 ?_
    refine lv_topEl (z := S64 (mFnd v i) (k + 1)) (rfl) ?_
    refine lv_lstore (lv' := [(5, .long (S64 (mFnd v i) (k + 1))), (0, .ref (a 0)), (1, .int (nI i)), (2, .int w), (3, .long ((mLeft v i).toInt64)), (7, .int (nI k))]) hx hb dX3_bear_50 hl (by decide) rfl (fun ls hl => ?_)
    refine lv_iinc (v := (nI (k + 1))) (lv' := [(7, .int (nI (k + 1))), (5, .long (S64 (mFnd v i) (k + 1))), (0, .ref (a 0)), (1, .int (nI i)), (2, .int w), (3, .long ((mLeft v i).toInt64))]) hx hb dX3_bear_52 hl (k := 5) rfl iinc1 (by decide) rfl (fun ls hl => ?_)
    refine lv_goto (tgt := 13) hx hb dX3_bear_55 (by decide) ?_
    exact ih_k ls (lv_sub hl [2, 3, 4, 5, 1, 0] rfl)
  · have hl : lv_has ls 10 [(0, .ref (a 0)), (1, .int (nI i)), (2, .int w), (3, .long ((mLeft v i).toInt64)), (5, .long (S64 (mFnd v i) 6)), (7, .int (nI 6))] := hl
    refine lv_iload hx hb dX3_bear_13 (lv_at hl 5 rfl) ?_
    refine lv_bipush (v := 6) hx hb dX3_bear_15 (by decide) ?_
    refine lv_icmp_ge (tgt := 58) hx hb dX3_bear_17 (by decide) (fun c_17 => ?_) (fun c_17 => absurd (nI_le (Nat.le_refl 6) (by decide)) c_17)
    refine lv_lload_n hx hb dX3_bear_58 rfl (lv_at hl 3 rfl) ?_
    refine lv_aload_n hx hb dX3_bear_59 rfl (lv_at hl 0 rfl) ?_
    refine mdG (v := v) (val := .ref (a 9)) hx hb hts hin3 hown hK hP 9 (by decide) (hts (.fieldLink RX3 23 "FundBookModel" "customers" "[I") (by decide +kernel)) rfl dX3_bear_60 ?_
    refine lv_iload_n hx hb dX3_bear_63 rfl (lv_at hl 1 rfl) ?_
    refine ldI (f := v 9) hx hb hK hP 4 mg_9 i rfl (by omega) (by decide) dX3_bear_64 ?_
    refine lv_i2l hx hb dX3_bear_65 rfl ?_
    refine lv_lmul hx hb dX3_bear_66 ?_
    refine lv_ldc2 (v := 120000) hx hb hown (hts (.constantLong RX3 89 120000) (by decide +kernel)) dX3_bear_67 ?_
    refine lv_ldiv hx hb dX3_bear_70 (by decide) ?_
    refine lv_l2i hx hb dX3_bear_71 rfl ?_
    refine lv_topE (z := mCust v i) (rfl) ?_
    refine lv_istore (lv' := [(7, .int (mCust v i)), (0, .ref (a 0)), (1, .int (nI i)), (2, .int w), (3, .long ((mLeft v i).toInt64)), (5, .long (S64 (mFnd v i) 6))]) hx hb dX3_bear_72 hl (by decide) rfl (fun ls hl => ?_)
    refine lv_lload hx hb dX3_bear_74 (lv_at hl 5 rfl) ?_
    refine lv_ldc2 (v := 120000) hx hb hown (hts (.constantLong RX3 89 120000) (by decide +kernel)) dX3_bear_76 ?_
    refine lv_ldiv hx hb dX3_bear_79 (by decide) ?_
    refine lv_l2i hx hb dX3_bear_80 rfl ?_
    refine lv_topE (z := mFund v i) (rfl) ?_
    refine lv_istore (lv' := [(8, .int (mFund v i)), (7, .int (mCust v i)), (0, .ref (a 0)), (1, .int (nI i)), (2, .int w), (3, .long ((mLeft v i).toInt64)), (5, .long (S64 (mFnd v i) 6))]) hx hb dX3_bear_81 hl (by decide) rfl (fun ls hl => ?_)
    refine lv_aload_n hx hb dX3_bear_83 rfl (lv_at hl 2 rfl) ?_
    refine mdG (v := v) (val := .ref (a 11)) hx hb hts hin3 hown hK hP 11 (by decide) (hts (.fieldLink RX3 29 "FundBookModel" "hasOption" "[Z") (by decide +kernel)) rfl dX3_bear_84 ?_
    refine lv_iload_n hx hb dX3_bear_87 rfl (lv_at hl 3 rfl) ?_
    refine ldZ (f := v 11) hx hb hK hP 6 mg_11 i rfl (by omega) (by decide) dX3_bear_88 ?_
    refine lv_if_eq (tgt := 109) hx hb dX3_bear_89 (by decide) (fun c_89 => ?_) (fun c_89 => ?_)
    · refine lv_iconst (v := 0) hx hb dX3_bear_109 (by decide) ?_
      refine lv_topE (z := mOpt v i) (by unfold mOpt; exact (if_pos c_89).symm) ?_
      refine lv_istore (lv' := [(9, .int (mOpt v i)), (8, .int (mFund v i)), (7, .int (mCust v i)), (0, .ref (a 0)), (1, .int (nI i)), (2, .int w), (3, .long ((mLeft v i).toInt64)), (5, .long (S64 (mFnd v i) 6))]) hx hb dX3_bear_110 hl (by decide) rfl (fun ls hl => ?_)
      refine lv_iload_n hx hb dX3_bear_112 rfl (lv_at hl 5 rfl) ?_
      refine lv_if_ne (tgt := 121) hx hb dX3_bear_113 (by decide) (fun c_113 => ?_) (fun c_113 => ?_)
      · refine lv_iload_n hx hb dX3_bear_121 rfl (lv_at hl 5 rfl) ?_
        refine lv_iconst (v := 1) hx hb dX3_bear_122 (by decide) ?_
        refine lv_icmp_ne (tgt := 131) hx hb dX3_bear_123 (by decide) (fun c_123 => ?_) (fun c_123 => ?_)
        · refine lv_iload_n hx hb dX3_bear_131 rfl (lv_at hl 5 rfl) ?_
          refine lv_iconst (v := 2) hx hb dX3_bear_132 (by decide) ?_
          refine lv_icmp_ne (tgt := 141) hx hb dX3_bear_133 (by decide) (fun c_133 => ?_) (fun c_133 => ?_)
          · refine lv_iload hx hb dX3_bear_141 (lv_at hl 2 rfl) ?_
            refine lv_iload hx hb dX3_bear_143 (lv_at hl 1 rfl) ?_
            refine lv_isub hx hb dX3_bear_145 ?_
            refine lv_iload hx hb dX3_bear_146 (lv_at hl 0 rfl) ?_
            refine lv_isub hx hb dX3_bear_148 ?_
            exact W.iret (v := ((mCust v i - mFund v i) - mOpt v i)) hx hb hr (fun t ht hW => ⟨congrArg (fun z => Outcome.returned (some (.int z))) (by unfold mBear; exact ((if_neg c_113).trans ((if_neg c_123).trans ((if_neg c_133)))).symm), ht⟩) t_nil dX3_bear_149
          · refine lv_iload hx hb dX3_bear_136 (lv_at hl 0 rfl) ?_
            refine lv_goto (tgt := 149) hx hb dX3_bear_138 (by decide) ?_
            exact W.iret (v := mOpt v i) hx hb hr (fun t ht hW => ⟨congrArg (fun z => Outcome.returned (some (.int z))) (by unfold mBear; exact ((if_neg c_113).trans ((if_neg c_123).trans ((if_pos c_133)))).symm), ht⟩) t_nil dX3_bear_149
        · refine lv_iload hx hb dX3_bear_126 (lv_at hl 1 rfl) ?_
          refine lv_goto (tgt := 149) hx hb dX3_bear_128 (by decide) ?_
          exact W.iret (v := mFund v i) hx hb hr (fun t ht hW => ⟨congrArg (fun z => Outcome.returned (some (.int z))) (by unfold mBear; exact ((if_neg c_113).trans ((if_pos c_123))).symm), ht⟩) t_nil dX3_bear_149
      · refine lv_iload hx hb dX3_bear_116 (lv_at hl 2 rfl) ?_
        refine lv_goto (tgt := 149) hx hb dX3_bear_118 (by decide) ?_
        exact W.iret (v := mCust v i) hx hb hr (fun t ht hW => ⟨congrArg (fun z => Outcome.returned (some (.int z))) (by unfold mBear; exact ((if_pos c_113)).symm), ht⟩) t_nil dX3_bear_149
    · refine lv_lload_n hx hb dX3_bear_92 rfl (lv_at hl 5 rfl) ?_
      refine lv_aload_n hx hb dX3_bear_93 rfl (lv_at hl 2 rfl) ?_
      refine mdG (v := v) (val := .ref (a 10)) hx hb hts hin3 hown hK hP 10 (by decide) (hts (.fieldLink RX3 26 "FundBookModel" "option" "[I") (by decide +kernel)) rfl dX3_bear_94 ?_
      refine lv_iload_n hx hb dX3_bear_97 rfl (lv_at hl 3 rfl) ?_
      refine ldI (f := v 10) hx hb hK hP 5 mg_10 i rfl (by omega) (by decide) dX3_bear_98 ?_
      refine lv_i2l hx hb dX3_bear_99 rfl ?_
      refine lv_lmul hx hb dX3_bear_100 ?_
      refine lv_ldc2 (v := 120000) hx hb hown (hts (.constantLong RX3 89 120000) (by decide +kernel)) dX3_bear_101 ?_
      refine lv_ldiv hx hb dX3_bear_104 (by decide) ?_
      refine lv_l2i hx hb dX3_bear_105 rfl ?_
      refine lv_goto (tgt := 110) hx hb dX3_bear_106 (by decide) ?_
      refine lv_topE (z := mOpt v i) (by unfold mOpt; exact (if_neg c_89).symm) ?_
      refine lv_istore (lv' := [(9, .int (mOpt v i)), (8, .int (mFund v i)), (7, .int (mCust v i)), (0, .ref (a 0)), (1, .int (nI i)), (2, .int w), (3, .long ((mLeft v i).toInt64)), (5, .long (S64 (mFnd v i) 6))]) hx hb dX3_bear_110 hl (by decide) rfl (fun ls hl => ?_)
      refine lv_iload_n hx hb dX3_bear_112 rfl (lv_at hl 5 rfl) ?_
      refine lv_if_ne (tgt := 121) hx hb dX3_bear_113 (by decide) (fun c_113 => ?_) (fun c_113 => ?_)
      · refine lv_iload_n hx hb dX3_bear_121 rfl (lv_at hl 5 rfl) ?_
        refine lv_iconst (v := 1) hx hb dX3_bear_122 (by decide) ?_
        refine lv_icmp_ne (tgt := 131) hx hb dX3_bear_123 (by decide) (fun c_123 => ?_) (fun c_123 => ?_)
        · refine lv_iload_n hx hb dX3_bear_131 rfl (lv_at hl 5 rfl) ?_
          refine lv_iconst (v := 2) hx hb dX3_bear_132 (by decide) ?_
          refine lv_icmp_ne (tgt := 141) hx hb dX3_bear_133 (by decide) (fun c_133 => ?_) (fun c_133 => ?_)
          · refine lv_iload hx hb dX3_bear_141 (lv_at hl 2 rfl) ?_
            refine lv_iload hx hb dX3_bear_143 (lv_at hl 1 rfl) ?_
            refine lv_isub hx hb dX3_bear_145 ?_
            refine lv_iload hx hb dX3_bear_146 (lv_at hl 0 rfl) ?_
            refine lv_isub hx hb dX3_bear_148 ?_
            exact W.iret (v := ((mCust v i - mFund v i) - mOpt v i)) hx hb hr (fun t ht hW => ⟨congrArg (fun z => Outcome.returned (some (.int z))) (by unfold mBear; exact ((if_neg c_113).trans ((if_neg c_123).trans ((if_neg c_133)))).symm), ht⟩) t_nil dX3_bear_149
          · refine lv_iload hx hb dX3_bear_136 (lv_at hl 0 rfl) ?_
            refine lv_goto (tgt := 149) hx hb dX3_bear_138 (by decide) ?_
            exact W.iret (v := mOpt v i) hx hb hr (fun t ht hW => ⟨congrArg (fun z => Outcome.returned (some (.int z))) (by unfold mBear; exact ((if_neg c_113).trans ((if_neg c_123).trans ((if_pos c_133)))).symm), ht⟩) t_nil dX3_bear_149
        · refine lv_iload hx hb dX3_bear_126 (lv_at hl 1 rfl) ?_
          refine lv_goto (tgt := 149) hx hb dX3_bear_128 (by decide) ?_
          exact W.iret (v := mFund v i) hx hb hr (fun t ht hW => ⟨congrArg (fun z => Outcome.returned (some (.int z))) (by unfold mBear; exact ((if_neg c_113).trans ((if_pos c_123))).symm), ht⟩) t_nil dX3_bear_149
      · refine lv_iload hx hb dX3_bear_116 (lv_at hl 2 rfl) ?_
        refine lv_goto (tgt := 149) hx hb dX3_bear_118 (by decide) ?_
        exact W.iret (v := mCust v i) hx hb hr (fun t ht hW => ⟨congrArg (fun z => Outcome.returned (some (.int z))) (by unfold mBear; exact ((if_pos c_113)).symm), ht⟩) t_nil dX3_bear_149
set_option maxHeartbeats 4000000 in
set_option maxRecDepth 100000 in
theorem c_X3_core (l : Launch) (G : va_G) (y : Nat → ClassId) (a : Nat → Nat) (v : MS)  : Met l yX3_core wsX3_core ({ frames := 0, cells := 0, slots := 0, locals := 0 }) (rP G y [.ref (a 0)] (mdW y a v)) (QcV (.int (mCore v))) 0 0 (fun _ => False) := by
  refine Met.ofW (cc := cX3_core) (maxL := 4) (ret := (some .int)) (by decide) rfl ?_
  intro p e s m args below meth c s₁ B hml hv
  obtain ⟨rfl, hP, hK⟩ := hv
  have hx := B.exec
  have hb := B.bytes
  have hr := B.returns
  have hts := atoms_spec (ws := wsX3_core) B.pre
  have hown : s.vm.findClass RX3 = some m.cls := findClass_of_methodNamed B.named
  have hlocks := B.notSynchronized
  have hl := lv_entry ([.ref (a 0)]) (n := 4) (Nat.le_of_ble_eq_true rfl)
  rw [lg_entry_eq]
  generalize (lg_sl ([.ref (a 0)]) ++ List.replicate (4 - (lg_sl ([.ref (a 0)])).length) Slot.unset).toArray = ls at hl ⊢
  have hin3 : ∀ w ∈ wsX30, w ∈ wsX3_core := by decide +kernel
  have hl : lv_has ls 4 [(0, .ref (a 0))] := hl
  refine lv_lconst (v := 0) hx hb dX3_core_0 (by decide) ?_
  refine lv_lstore_n (lv' := [(1, .long 0), (0, .ref (a 0))]) hx hb dX3_core_1 rfl hl (by decide) rfl (fun ls hl => ?_)
  refine lv_iconst (v := 0) hx hb dX3_core_2 (by decide) ?_
  refine lv_istore_n (lv' := [(3, .int 0), (1, .long 0), (0, .ref (a 0))]) hx hb dX3_core_3 rfl hl (by decide) rfl (fun ls hl => ?_)
  refine loopW (LV := fun k => [(0, .ref (a 0)), (1, .long (S64 (fun j => (v 15 j).toInt64) k)), (3, .int (nI k))]) 3 (lv_sub hl [2, 1, 0] rfl) (fun k ls hk_k hl ih_k => ?_) (fun ls hl => ?_)
  · have hl : lv_has ls 4 [(0, .ref (a 0)), (1, .long (S64 (fun j => (v 15 j).toInt64) k)), (3, .int (nI k))] := hl
    refine lv_iload_n hx hb dX3_core_4 rfl (lv_at hl 2 rfl) ?_
    refine lv_iconst (v := 3) hx hb dX3_core_5 (by decide) ?_
    refine lv_icmp_ge (tgt := 25) hx hb dX3_core_6 (by decide) (fun c_6 => absurd c_6 (nI_ge hk_k (by decide))) (fun c_6 => ?_)
    refine lv_lload_n hx hb dX3_core_9 rfl (lv_at hl 1 rfl) ?_
    refine lv_aload_n hx hb dX3_core_10 rfl (lv_at hl 0 rfl) ?_
    refine mdG (v := v) (val := .ref (a 15)) hx hb hts hin3 hown hK hP 15 (by decide) (hts (.fieldLink RX3 42 "FundBookModel" "balance" "[I") (by decide +kernel)) rfl dX3_core_11 ?_
    refine lv_iload_n hx hb dX3_core_14 rfl (lv_at hl 2 rfl) ?_
    refine ldI (f := v 15) hx hb hK hP 10 mg_15 k rfl (by omega) (by decide) dX3_core_15 ?_
    refine lv_i2l hx hb dX3_core_16 rfl ?_
    refine lv_ladd hx hb dX3_core_17 ?_
    refine lv_topEl (z := S64 (fun j => (v 15 j).toInt64) (k + 1)) (rfl) ?_
    refine lv_lstore_n (lv' := [(1, .long (S64 (fun j => (v 15 j).toInt64) (k + 1))), (0, .ref (a 0)), (3, .int (nI k))]) hx hb dX3_core_18 rfl hl (by decide) rfl (fun ls hl => ?_)
    refine lv_iinc (v := (nI (k + 1))) (lv' := [(3, .int (nI (k + 1))), (1, .long (S64 (fun j => (v 15 j).toInt64) (k + 1))), (0, .ref (a 0))]) hx hb dX3_core_19 hl (k := 2) rfl iinc1 (by decide) rfl (fun ls hl => ?_)
    refine lv_goto (tgt := 4) hx hb dX3_core_22 (by decide) ?_
    exact ih_k ls (lv_sub hl [2, 1, 0] rfl)
  · have hl : lv_has ls 4 [(0, .ref (a 0)), (1, .long (S64 (fun j => (v 15 j).toInt64) 3)), (3, .int (nI 3))] := hl
    refine lv_iload_n hx hb dX3_core_4 rfl (lv_at hl 2 rfl) ?_
    refine lv_iconst (v := 3) hx hb dX3_core_5 (by decide) ?_
    refine lv_icmp_ge (tgt := 25) hx hb dX3_core_6 (by decide) (fun c_6 => ?_) (fun c_6 => absurd (nI_le (Nat.le_refl 3) (by decide)) c_6)
    refine lv_lload_n hx hb dX3_core_25 rfl (lv_at hl 1 rfl) ?_
    refine lv_aload_n hx hb dX3_core_26 rfl (lv_at hl 0 rfl) ?_
    refine mdG (v := v) (val := .int (v 0 5)) hx hb hts hin3 hown hK hP 5 (by decide) (hts (.fieldLink RX3 13 "FundBookModel" "share" "I") (by decide +kernel)) rfl dX3_core_27 ?_
    refine lv_i2l hx hb dX3_core_30 rfl ?_
    refine lv_lmul hx hb dX3_core_31 ?_
    refine lv_ldc2 (v := 100) hx hb hown (hts (.constantLong RX3 99 100) (by decide +kernel)) dX3_core_32 ?_
    refine lv_ldiv hx hb dX3_core_35 (by decide) ?_
    refine lv_l2i hx hb dX3_core_36 rfl ?_
    exact W.iret (v := ((S64 (fun j => (v 15 j).toInt64) 3 * (v 0 5).toInt64) / 100).toInt32) hx hb hr (fun t ht hW => ⟨congrArg (fun z => Outcome.returned (some (.int z))) (rfl), ht⟩) t_nil dX3_core_37
set_option maxHeartbeats 4000000 in
set_option maxRecDepth 100000 in
theorem c_X3_lays (l : Launch) (G : va_G) (y : Nat → ClassId) (a : Nat → Nat) (v : MS) (sz : Nat) (t : Nat) (ht : t < 6) : Met l yX3_lays wsX3_lays ({ frames := 1, cells := 0, slots := 0, locals := 23 }) (mP G y [.ref (a 0), .int (nI t)] (mdW y a v) sz) (mQ G (fun _ : Unit => none) (fun _ => True) (fun _ => mdW y a (mLay v t)) (va_A (mdW y a v) sz)) 0 0 (va_A (mdW y a v) sz) := by
  refine Met.ofW (cc := cX3_lays) (maxL := 2) (ret := none) (by decide) rfl ?_
  intro p e s m args below meth c s₁ B hml hv
  obtain ⟨rfl, hsz, hP, hK, hD0⟩ := hv
  have hx := B.exec
  have hb := B.bytes
  have hr := B.returns
  have hts := atoms_spec (ws := wsX3_lays) B.pre
  have hown : s.vm.findClass RX3 = some m.cls := findClass_of_methodNamed B.named
  have hlocks := B.notSynchronized
  subst hsz
  have hD := hD0.self (sz := s.heap.size)
  generalize hAe : va_A (mdW y a v) s.heap.size = A at hD ⊢
  have hA : ∀ q : Nat, s.heap.size ≤ q → A q := fun q h => by rw [← hAe]; exact Or.inr h
  have hS : va_S A s.heap s.heap [] := va_S.rf
  have hP : va_P G vwCl (mdW y a v) s.heap := hP
  have hl := lv_entry ([.ref (a 0), .int (nI t)]) (n := 2) (Nat.le_of_ble_eq_true rfl)
  rw [lg_entry_eq]
  generalize (lg_sl ([.ref (a 0), .int (nI t)]) ++ List.replicate (2 - (lg_sl ([.ref (a 0), .int (nI t)])).length) Slot.unset).toArray = ls at hl ⊢
  have hin3 : ∀ w ∈ wsX30, w ∈ wsX3_lays := by decide +kernel
  have hl : lv_has ls 2 [(0, .ref (a 0)), (1, .int (nI t))] := hl
  refine lv_aload_n hx hb dX3_lays_0 rfl (lv_at hl 0 rfl) ?_
  refine mdG (v := v) (val := .ref (a 16)) hx hb hts hin3 hown hK hP 16 (by decide) (hts (.fieldLink RX3 45 "FundBookModel" "tranche" "[I") (by decide +kernel)) rfl dX3_lays_1 ?_
  refine lv_iload_n hx hb dX3_lays_4 rfl (lv_at hl 1 rfl) ?_
  refine lv_aload_n hx hb dX3_lays_5 rfl (lv_at hl 0 rfl) ?_
  refine caR (r := .int (mCore v)) (va_runV (As := []) (rest := [.int (nI t), .ref (a 16)]) ⟨hx, hb, hml, hown, hts⟩ (c_X3_core l G y a v ) (cwV 0 hts gX3_lays_X3_core rfl rfl rfl (by decide +kernel) ⟨Nat.le_of_ble_eq_true rfl, Nat.le_of_ble_eq_true rfl⟩) ⟨rP_bl, va_recv hK.1 hP (ci := 3) (q0 := 0) rfl rfl, fun U hU hW => ⟨rfl, by rw [hU]; exact hP, Kb.moved hW hK⟩⟩ rfl rfl hl.1 rfl (lv_room (Nat.le_of_ble_eq_true rfl)) dX3_lays_6 ⟨Nat.le_of_ble_eq_true rfl, Nat.le_of_ble_eq_true rfl⟩) ?_
  refine lv_bipush (v := 6) hx hb dX3_lays_9 (by decide) ?_
  refine lv_idiv hx hb dX3_lays_11 (by decide) ?_
  refine stI (f := v 16) (ws1 := mdW y a (u2 v 16 t (mCore v / 6))) hx hb hK hP hD hS 11 mg_16 t rfl (by omega) (by decide) ms_16 dX3_lays_12 (fun H locs hP hD hS => ?_)
  refine lv_aload_n hx hb dX3_lays_13 rfl (lv_at hl 0 rfl) ?_
  refine mdG (v := (u2 v 16 t (mCore v / 6))) (val := .ref (a 17)) hx hb hts hin3 hown hK hP 17 (by decide) (hts (.fieldLink RX3 48 "FundBookModel" "laidAt" "[I") (by decide +kernel)) rfl dX3_lays_14 ?_
  refine lv_iload_n hx hb dX3_lays_17 rfl (lv_at hl 1 rfl) ?_
  refine lv_aload_n hx hb dX3_lays_18 rfl (lv_at hl 0 rfl) ?_
  refine mdG (v := (u2 v 16 t (mCore v / 6))) (val := .ref (a 2)) hx hb hts hin3 hown hK hP 2 (by decide) (hts (.fieldLink RX3 7 "FundBookModel" "curve" "[I") (by decide +kernel)) rfl dX3_lays_19 ?_
  refine lv_bipush (v := 6) hx hb dX3_lays_22 (by decide) ?_
  refine ldI (f := v 2) hx hb hK hP 1 rfl 6 rfl (by decide) (by decide) dX3_lays_24 ?_
  refine stI (f := (u2 v 16 t (mCore v / 6)) 17) (ws1 := mdW y a (u2 (u2 v 16 t (mCore v / 6)) 17 t (v 2 6))) hx hb hK hP hD hS 12 mg_17 t rfl (by omega) (by decide) ms_17 dX3_lays_25 (fun H locs hP hD hS => ?_)
  have ev : mLay v t = (u2 (u2 v 16 t (mCore v / 6)) 17 t (v 2 6)) := by rfl
  exact W.vret hx hb hr (fun t ht hW => ⟨⟨(), rfl, trivial, by rw [ht, ev]; exact hP, by rw [ev]; exact hD⟩, hS.F ht⟩) hS.2.2 dX3_lays_26
set_option maxHeartbeats 4000000 in
set_option maxRecDepth 100000 in
theorem c_X3_replica (l : Launch) (G : va_G) (y : Nat → ClassId) (a : Nat → Nat) (v : MS)  : Met l yX3_replica wsX3_replica ({ frames := 0, cells := 0, slots := 0, locals := 0 }) (rP G y [.ref (a 0)] (mdW y a v)) (QcV (.int (mRep v))) 0 0 (fun _ => False) := by
  refine Met.ofW (cc := cX3_replica) (maxL := 6) (ret := (some .int)) (by decide) rfl ?_
  intro p e s m args below meth c s₁ B hml hv
  obtain ⟨rfl, hP, hK⟩ := hv
  have hx := B.exec
  have hb := B.bytes
  have hr := B.returns
  have hts := atoms_spec (ws := wsX3_replica) B.pre
  have hown : s.vm.findClass RX3 = some m.cls := findClass_of_methodNamed B.named
  have hlocks := B.notSynchronized
  have hl := lv_entry ([.ref (a 0)]) (n := 6) (Nat.le_of_ble_eq_true rfl)
  rw [lg_entry_eq]
  generalize (lg_sl ([.ref (a 0)]) ++ List.replicate (6 - (lg_sl ([.ref (a 0)])).length) Slot.unset).toArray = ls at hl ⊢
  have hin3 : ∀ w ∈ wsX30, w ∈ wsX3_replica := by decide +kernel
  have hl : lv_has ls 6 [(0, .ref (a 0))] := hl
  refine lv_lconst (v := 0) hx hb dX3_replica_0 (by decide) ?_
  refine lv_lstore_n (lv' := [(1, .long 0), (0, .ref (a 0))]) hx hb dX3_replica_1 rfl hl (by decide) rfl (fun ls hl => ?_)
  refine lv_lconst (v := 0) hx hb dX3_replica_2 (by decide) ?_
  refine lv_lstore_n (lv' := [(3, .long 0), (1, .long 0), (0, .ref (a 0))]) hx hb dX3_replica_3 rfl hl (by decide) rfl (fun ls hl => ?_)
  refine lv_iconst (v := 0) hx hb dX3_replica_4 (by decide) ?_
  refine lv_istore (lv' := [(5, .int 0), (3, .long 0), (1, .long 0), (0, .ref (a 0))]) hx hb dX3_replica_5 hl (by decide) rfl (fun ls hl => ?_)
  refine loopW (LV := fun k => [(0, .ref (a 0)), (1, .long (S64 (mRsm v) k)), (3, .long (S64 (mRal v) k)), (5, .int (nI k))]) 6 (lv_sub hl [3, 2, 1, 0] rfl) (fun k ls hk_k hl ih_k => ?_) (fun ls hl => ?_)
  · have hl : lv_has ls 6 [(0, .ref (a 0)), (1, .long (S64 (mRsm v) k)), (3, .long (S64 (mRal v) k)), (5, .int (nI k))] := hl
    refine lv_iload hx hb dX3_replica_7 (lv_at hl 3 rfl) ?_
    refine lv_bipush (v := 6) hx hb dX3_replica_9 (by decide) ?_
    refine lv_icmp_ge (tgt := 51) hx hb dX3_replica_11 (by decide) (fun c_11 => absurd c_11 (nI_ge hk_k (by decide))) (fun c_11 => ?_)
    refine lv_lload_n hx hb dX3_replica_14 rfl (lv_at hl 1 rfl) ?_
    refine lv_aload_n hx hb dX3_replica_15 rfl (lv_at hl 0 rfl) ?_
    refine mdG (v := v) (val := .ref (a 16)) hx hb hts hin3 hown hK hP 16 (by decide) (hts (.fieldLink RX3 45 "FundBookModel" "tranche" "[I") (by decide +kernel)) rfl dX3_replica_16 ?_
    refine lv_iload hx hb dX3_replica_19 (lv_at hl 3 rfl) ?_
    refine ldI (f := v 16) hx hb hK hP 11 mg_16 k rfl (by omega) (by decide) dX3_replica_21 ?_
    refine lv_i2l hx hb dX3_replica_22 rfl ?_
    refine lv_aload_n hx hb dX3_replica_23 rfl (lv_at hl 0 rfl) ?_
    refine mdG (v := v) (val := .ref (a 17)) hx hb hts hin3 hown hK hP 17 (by decide) (hts (.fieldLink RX3 48 "FundBookModel" "laidAt" "[I") (by decide +kernel)) rfl dX3_replica_24 ?_
    refine lv_iload hx hb dX3_replica_27 (lv_at hl 3 rfl) ?_
    refine ldI (f := v 17) hx hb hK hP 12 mg_17 k rfl (by omega) (by decide) dX3_replica_29 ?_
    refine lv_i2l hx hb dX3_replica_30 rfl ?_
    refine lv_lmul hx hb dX3_replica_31 ?_
    refine lv_ladd hx hb dX3_replica_32 ?_
    refine lv_topEl (z := S64 (mRsm v) (k + 1)) (rfl) ?_
    refine lv_lstore_n (lv' := [(1, .long (S64 (mRsm v) (k + 1))), (0, .ref (a 0)), (3, .long (S64 (mRal v) k)), (5, .int (nI k))]) hx hb dX3_replica_33 rfl hl (by decide) rfl (fun ls hl => ?_)
    refine lv_lload_n hx hb dX3_replica_34 rfl (lv_at hl 2 rfl) ?_
    refine lv_aload_n hx hb dX3_replica_35 rfl (lv_at hl 1 rfl) ?_
    refine mdG (v := v) (val := .ref (a 16)) hx hb hts hin3 hown hK hP 16 (by decide) (hts (.fieldLink RX3 45 "FundBookModel" "tranche" "[I") (by decide +kernel)) rfl dX3_replica_36 ?_
    refine lv_iload hx hb dX3_replica_39 (lv_at hl 3 rfl) ?_
    refine ldI (f := v 16) hx hb hK hP 11 mg_16 k rfl (by omega) (by decide) dX3_replica_41 ?_
    refine lv_i2l hx hb dX3_replica_42 rfl ?_
    refine lv_ladd hx hb dX3_replica_43 ?_
    refine lv_topEl (z := S64 (mRal v) (k + 1)) (rfl) ?_
    refine lv_lstore_n (lv' := [(3, .long (S64 (mRal v) (k + 1))), (1, .long (S64 (mRsm v) (k + 1))), (0, .ref (a 0)), (5, .int (nI k))]) hx hb dX3_replica_44 rfl hl (by decide) rfl (fun ls hl => ?_)
    refine lv_iinc (v := (nI (k + 1))) (lv' := [(5, .int (nI (k + 1))), (3, .long (S64 (mRal v) (k + 1))), (1, .long (S64 (mRsm v) (k + 1))), (0, .ref (a 0))]) hx hb dX3_replica_45 hl (k := 3) rfl iinc1 (by decide) rfl (fun ls hl => ?_)
    refine lv_goto (tgt := 7) hx hb dX3_replica_48 (by decide) ?_
    exact ih_k ls (lv_sub hl [3, 2, 1, 0] rfl)
  · have hl : lv_has ls 6 [(0, .ref (a 0)), (1, .long (S64 (mRsm v) 6)), (3, .long (S64 (mRal v) 6)), (5, .int (nI 6))] := hl
    refine lv_iload hx hb dX3_replica_7 (lv_at hl 3 rfl) ?_
    refine lv_bipush (v := 6) hx hb dX3_replica_9 (by decide) ?_
    refine lv_icmp_ge (tgt := 51) hx hb dX3_replica_11 (by decide) (fun c_11 => ?_) (fun c_11 => absurd (nI_le (Nat.le_refl 6) (by decide)) c_11)
    refine lv_lload_n hx hb dX3_replica_51 rfl (lv_at hl 2 rfl) ?_
    refine lv_lconst (v := 0) hx hb dX3_replica_52 (by decide) ?_
    refine W.lcmp hx hb dX3_replica_53 ?_
    refine lv_if_ne (tgt := 61) hx hb dX3_replica_54 (by decide) (fun c_54 => ?_) (fun c_54 => ?_)
    · refine lv_lload_n hx hb dX3_replica_61 rfl (lv_at hl 1 rfl) ?_
      refine lv_lload_n hx hb dX3_replica_62 rfl (lv_at hl 2 rfl) ?_
      refine lv_ldiv hx hb dX3_replica_63 (lcmp_ne c_54) ?_
      refine lv_l2i hx hb dX3_replica_64 rfl ?_
      exact W.iret (v := (S64 (mRsm v) 6 / S64 (mRal v) 6).toInt32) hx hb hr (fun t ht hW => ⟨congrArg (fun z => Outcome.returned (some (.int z))) (by unfold mRep; exact (if_neg (lcmp_ne c_54)).symm), ht⟩) t_nil dX3_replica_65
    · refine lv_iconst (v := 0) hx hb dX3_replica_57 (by decide) ?_
      refine lv_goto (tgt := 65) hx hb dX3_replica_58 (by decide) ?_
      exact W.iret (v := 0) hx hb hr (fun t ht hW => ⟨congrArg (fun z => Outcome.returned (some (.int z))) (by unfold mRep; exact (if_pos (lcmp_eq c_54)).symm), ht⟩) t_nil dX3_replica_65
set_option maxHeartbeats 4000000 in
set_option maxRecDepth 100000 in
theorem c_X3_isPaid (l : Launch) (G : va_G) (y : Nat → ClassId) (a : Nat → Nat) (v : MS) (k : Nat) (hk : k < 3) : Met l yX3_isPaid wsX3_isPaid ({ frames := 1, cells := 0, slots := 0, locals := 25 }) (rP G y [.ref (a 0), .int (nI k)] (mdW y a v)) (QcV (.int (mPaid v k))) 0 0 (fun _ => False) := by
  refine Met.ofW (cc := cX3_isPaid) (maxL := 4) (ret := (some .int)) (by decide) rfl ?_
  intro p e s m args below meth c s₁ B hml hv
  obtain ⟨rfl, hP, hK⟩ := hv
  have hx := B.exec
  have hb := B.bytes
  have hr := B.returns
  have hts := atoms_spec (ws := wsX3_isPaid) B.pre
  have hown : s.vm.findClass RX3 = some m.cls := findClass_of_methodNamed B.named
  have hlocks := B.notSynchronized
  have hl := lv_entry ([.ref (a 0), .int (nI k)]) (n := 4) (Nat.le_of_ble_eq_true rfl)
  rw [lg_entry_eq]
  generalize (lg_sl ([.ref (a 0), .int (nI k)]) ++ List.replicate (4 - (lg_sl ([.ref (a 0), .int (nI k)])).length) Slot.unset).toArray = ls at hl ⊢
  have hin3 : ∀ w ∈ wsX30, w ∈ wsX3_isPaid := by decide +kernel
  have hl : lv_has ls 4 [(0, .ref (a 0)), (1, .int (nI k))] := hl
  refine lv_aload_n hx hb dX3_isPaid_0 rfl (lv_at hl 0 rfl) ?_
  refine mdG (v := v) (val := .ref (a 15)) hx hb hts hin3 hown hK hP 15 (by decide) (hts (.fieldLink RX3 42 "FundBookModel" "balance" "[I") (by decide +kernel)) rfl dX3_isPaid_1 ?_
  refine lv_iload_n hx hb dX3_isPaid_4 rfl (lv_at hl 1 rfl) ?_
  refine ldI (f := v 15) hx hb hK hP 10 mg_15 k rfl (by omega) (by decide) dX3_isPaid_5 ?_
  refine lv_i2l hx hb dX3_isPaid_6 rfl ?_
  refine lv_aload_n hx hb dX3_isPaid_7 rfl (lv_at hl 0 rfl) ?_
  refine mdG (v := v) (val := .int (v 0 5)) hx hb hts hin3 hown hK hP 5 (by decide) (hts (.fieldLink RX3 13 "FundBookModel" "share" "I") (by decide +kernel)) rfl dX3_isPaid_8 ?_
  refine lv_i2l hx hb dX3_isPaid_11 rfl ?_
  refine lv_lmul hx hb dX3_isPaid_12 ?_
  refine lv_ldc2 (v := 100) hx hb hown (hts (.constantLong RX3 99 100) (by decide +kernel)) dX3_isPaid_13 ?_
  refine lv_ldiv hx hb dX3_isPaid_16 (by decide) ?_
  refine lv_lstore_n (lv' := [(2, .long (((v 15 k).toInt64 * (v 0 5).toInt64) / 100)), (0, .ref (a 0)), (1, .int (nI k))]) hx hb dX3_isPaid_17 rfl hl (by decide) rfl (fun ls hl => ?_)
  refine lv_lload_n hx hb dX3_isPaid_18 rfl (lv_at hl 0 rfl) ?_
  refine lv_aload_n hx hb dX3_isPaid_19 rfl (lv_at hl 1 rfl) ?_
  refine caR (r := .int (mRep v)) (va_runV (As := []) (rest := [.long (((v 15 k).toInt64 * (v 0 5).toInt64) / 100)]) ⟨hx, hb, hml, hown, hts⟩ (c_X3_replica l G y a v ) (cwV 0 hts gX3_isPaid_X3_replica rfl rfl rfl (by decide +kernel) ⟨Nat.le_of_ble_eq_true rfl, Nat.le_of_ble_eq_true rfl⟩) ⟨rP_bl, va_recv hK.1 hP (ci := 3) (q0 := 0) rfl rfl, fun U hU hW => ⟨rfl, by rw [hU]; exact hP, Kb.moved hW hK⟩⟩ rfl rfl hl.1 rfl (lv_room (Nat.le_of_ble_eq_true rfl)) dX3_isPaid_20 ⟨Nat.le_of_ble_eq_true rfl, Nat.le_of_ble_eq_true rfl⟩) ?_
  refine lv_i2l hx hb dX3_isPaid_23 rfl ?_
  refine lv_lmul hx hb dX3_isPaid_24 ?_
  refine lv_aload_n hx hb dX3_isPaid_25 rfl (lv_at hl 1 rfl) ?_
  refine mdG (v := v) (val := .ref (a 15)) hx hb hts hin3 hown hK hP 15 (by decide) (hts (.fieldLink RX3 42 "FundBookModel" "balance" "[I") (by decide +kernel)) rfl dX3_isPaid_26 ?_
  refine lv_iload_n hx hb dX3_isPaid_29 rfl (lv_at hl 2 rfl) ?_
  refine ldI (f := v 15) hx hb hK hP 10 mg_15 k rfl (by omega) (by decide) dX3_isPaid_30 ?_
  refine lv_i2l hx hb dX3_isPaid_31 rfl ?_
  refine lv_lload_n hx hb dX3_isPaid_32 rfl (lv_at hl 0 rfl) ?_
  refine lv_lsub hx hb dX3_isPaid_33 ?_
  refine lv_aload_n hx hb dX3_isPaid_34 rfl (lv_at hl 1 rfl) ?_
  refine mdG (v := v) (val := .ref (a 2)) hx hb hts hin3 hown hK hP 2 (by decide) (hts (.fieldLink RX3 7 "FundBookModel" "curve" "[I") (by decide +kernel)) rfl dX3_isPaid_35 ?_
  refine lv_iconst (v := 1) hx hb dX3_isPaid_38 (by decide) ?_
  refine ldI (f := v 2) hx hb hK hP 1 mg_2 1 rfl (by decide) (by decide) dX3_isPaid_39 ?_
  refine lv_i2l hx hb dX3_isPaid_40 rfl ?_
  refine lv_lmul hx hb dX3_isPaid_41 ?_
  refine lv_ladd hx hb dX3_isPaid_42 ?_
  refine lv_ldc2 (v := 120000) hx hb hown (hts (.constantLong RX3 89 120000) (by decide +kernel)) dX3_isPaid_43 ?_
  refine lv_ldiv hx hb dX3_isPaid_46 (by decide) ?_
  refine lv_l2i hx hb dX3_isPaid_47 rfl ?_
  exact W.iret (v := ((((((v 15 k).toInt64 * (v 0 5).toInt64) / 100) * (mRep v).toInt64) + (((v 15 k).toInt64 - (((v 15 k).toInt64 * (v 0 5).toInt64) / 100)) * (v 2 1).toInt64)) / 120000).toInt32) hx hb hr (fun t ht hW => ⟨congrArg (fun z => Outcome.returned (some (.int z))) (rfl), ht⟩) t_nil dX3_isPaid_48
set_option maxHeartbeats 4000000 in
set_option maxRecDepth 100000 in
theorem c_X3_pays (l : Launch) (G : va_G) (y : Nat → ClassId) (a : Nat → Nat) (v : MS) (k : Nat) (hk : k < 3) : Met l yX3_pays wsX3_pays ({ frames := 0, cells := 0, slots := 0, locals := 0 }) (rP G y [.ref (a 0), .int (nI k)] (mdW y a v)) (QcV (.int (mPays v k))) 0 0 (fun _ => False) := by
  refine Met.ofW (cc := cX3_pays) (maxL := 2) (ret := (some .int)) (by decide) rfl ?_
  intro p e s m args below meth c s₁ B hml hv
  obtain ⟨rfl, hP, hK⟩ := hv
  have hx := B.exec
  have hb := B.bytes
  have hr := B.returns
  have hts := atoms_spec (ws := wsX3_pays) B.pre
  have hown : s.vm.findClass RX3 = some m.cls := findClass_of_methodNamed B.named
  have hlocks := B.notSynchronized
  have hl := lv_entry ([.ref (a 0), .int (nI k)]) (n := 2) (Nat.le_of_ble_eq_true rfl)
  rw [lg_entry_eq]
  generalize (lg_sl ([.ref (a 0), .int (nI k)]) ++ List.replicate (2 - (lg_sl ([.ref (a 0), .int (nI k)])).length) Slot.unset).toArray = ls at hl ⊢
  have hin3 : ∀ w ∈ wsX30, w ∈ wsX3_pays := by decide +kernel
  have hl : lv_has ls 2 [(0, .ref (a 0)), (1, .int (nI k))] := hl
  refine lv_aload_n hx hb dX3_pays_0 rfl (lv_at hl 0 rfl) ?_
  refine mdG (v := v) (val := .ref (a 15)) hx hb hts hin3 hown hK hP 15 (by decide) (hts (.fieldLink RX3 42 "FundBookModel" "balance" "[I") (by decide +kernel)) rfl dX3_pays_1 ?_
  refine lv_iload_n hx hb dX3_pays_4 rfl (lv_at hl 1 rfl) ?_
  refine ldI (f := v 15) hx hb hK hP 10 mg_15 k rfl (by omega) (by decide) dX3_pays_5 ?_
  refine lv_i2l hx hb dX3_pays_6 rfl ?_
  refine lv_aload_n hx hb dX3_pays_7 rfl (lv_at hl 0 rfl) ?_
  refine mdG (v := v) (val := .int (v 0 3)) hx hb hts hin3 hown hK hP 3 (by decide) (hts (.fieldLink RX3 80 "FundBookModel" "depositRate" "I") (by decide +kernel)) rfl dX3_pays_8 ?_
  refine lv_i2l hx hb dX3_pays_11 rfl ?_
  refine lv_lmul hx hb dX3_pays_12 ?_
  refine lv_ldc2 (v := 120000) hx hb hown (hts (.constantLong RX3 89 120000) (by decide +kernel)) dX3_pays_13 ?_
  refine lv_ldiv hx hb dX3_pays_16 (by decide) ?_
  refine lv_l2i hx hb dX3_pays_17 rfl ?_
  exact W.iret (v := (((v 15 k).toInt64 * (v 0 3).toInt64) / 120000).toInt32) hx hb hr (fun t ht hW => ⟨congrArg (fun z => Outcome.returned (some (.int z))) (rfl), ht⟩) t_nil dX3_pays_18
end
section
/-! ===== the model's calls (printed by a program of mine) ===== -/
theorem cnI {i : Nat} (h : i < 2 ^ 31) : cn (nI i) = i := nI_clamp h
theorem n6lt {q : Nat} (h : ¬ (6 : Int32) ≤ nI q) (h2 : q < 2 ^ 31) : q < 6 := by
  rcases Nat.lt_or_ge q 6 with h1 | h1
  · exact h1
  · exact absurd (nI_le h1 h2) h
/-- an index that 'in' has let through -/
theorem inN {x : Int32} {M : Nat} (h : ¬ mIn x 0 (nI M) = 0) (hM : M < 2 ^ 31) : ∃ i, i ≤ M ∧ x = nI i :=
  ⟨cn x, cl_le (mIn_T h).1 (mIn_T h).2 hM, cl_nI (mIn_T h).1⟩
theorem in1N {x : Int32} {M : Nat} (h : ¬ mIn x 1 (nI M) = 0) (hM : M < 2 ^ 31) : ∃ i, i ≤ M ∧ 1 ≤ i ∧ x = nI i := by
  obtain ⟨h1, h2⟩ := mIn_T h
  have h0 := lt_1_0 h1
  refine ⟨cn x, cl_le h0 h2 hM, ?_, cl_nI h0⟩
  rcases Nat.eq_zero_or_pos (cn x) with q | q
  · have e := cl_nI h0
    rw [q] at e
    rw [e] at h1
    exact absurd (by decide) h1
  · exact q
theorem inL {x : Int32} {n : Nat} (h : ¬ mIn x 0 (nI n - 1) = 0) (hn : n < 2 ^ 31) : ∃ i, i < n ∧ x = nI i := by
  cases n with
  | zero =>
    obtain ⟨h1, h2⟩ := mIn_T h
    obtain ⟨j, hj, rfl⟩ := nI_of h1
    exfalso
    refine h2 ?_
    rw [Int32.lt_iff_toInt_lt, nI_toInt hj]
    have : (nI 0 - 1).toInt = -1 := by decide
    omega
  | succ k =>
    rw [nI_pred] at h
    obtain ⟨i, hi, e⟩ := inN h (by omega)
    exact ⟨i, by omega, e⟩
theorem mLp_o {w : MS} {n : Nat} {am : Int32} {mo : Nat} {j : Nat} (h1 : j ≠ 13) (h2 : j ≠ 14) : ∀ k, mLp w n am mo k j = w j
  | 0 => rfl
  | k + 1 => by rw [mLp, u2_j h2, u2_j h1, mLp_o h1 h2 k]
theorem mRz_o {w : MS} {i j : Nat} (h1 : j ≠ 13) : ∀ k, mRz w i k j = w j
  | 0 => rfl
  | k + 1 => by rw [mRz, u2_j h1, mRz_o h1 k]
theorem mLA_o {w : MS} {j : Nat} (h1 : j ≠ 16) (h2 : j ≠ 17) : ∀ k, mLA w k j = w j
  | 0 => rfl
  | k + 1 => by rw [mLA, mLay, u2_j h2, u2_j h1, mLA_o h1 h2 k]
theorem mC1_o {v : MS} {t j : Nat} (h1 : j ≠ 18) (h2 : j ≠ 19) : ∀ k, mC1 v t k j = v j
  | 0 => rfl
  | k + 1 => by rw [mC1, u2_j h2, u2_j h1, mC1_o h1 h2 k]
theorem mC2_o {w v : MS} {t j : Nat} (h1 : j ≠ 18) : ∀ k, mC2 w v t k j = w j
  | 0 => rfl
  | k + 1 => by rw [mC2, u2_j h1, mC2_o h1 k]
theorem mC3_o {w : MS} {bo : Nat → Nat} {t j : Nat} (h1 : j ≠ 13) : ∀ k, mC3 w bo t k j = w j
  | 0 => rfl
  | k + 1 => by
    rw [mC3]
    split
    · rw [u2_j h1, mC3_o h1 k]
    · exact mC3_o h1 k
theorem mBear_c {v w : MS} {i : Nat} {x : Int32} (h9 : w 9 = v 9) (h10 : w 10 = v 10) (h11 : w 11 = v 11) (h13 : w 13 = v 13) (h14 : w 14 = v 14) : mBear w i x = mBear v i x := by
  have e : mFnd w i = mFnd v i := by
    funext k
    simp only [mFnd, h13, h14]
  simp only [mBear, mCust, mFund, mOpt, mLeft, e, h9, h10, h11, h13]
theorem mC1_b {v : MS} {t k i : Nat} {x : Int32} : mBear (mC1 v t k) i x = mBear v i x :=
  mBear_c (mC1_o (by decide) (by decide) k) (mC1_o (by decide) (by decide) k) (mC1_o (by decide) (by decide) k) (mC1_o (by decide) (by decide) k) (mC1_o (by decide) (by decide) k)
theorem S32_s {f : Nat → Int32} {k : Nat} : S32 f k + f k = S32 f (k + 1) := rfl
theorem D32_s {x : Int32} {f : Nat → Int32} {k : Nat} : D32 x f k - f k = D32 x f (k + 1) := rfl
theorem mC1_T {v : MS} {t k : Nat} : mC1 (mT v 0) t (k + 1) = u2 (u2 (mC1 (mT v 0) t k) 18 (3 * t + cn (v 7 k)) (mC1 (mT v 0) t k 18 (3 * t + cn (v 7 k)) + mBear v k 3)) 19 (3 * t + cn (v 8 k)) (mC1 (mT v 0) t k 19 (3 * t + cn (v 8 k)) + mBear v k 3) := by
  have hb : mBear (mT v 0) k 3 = mBear v k 3 := mBear_c rfl rfl rfl rfl rfl
  have h7 : mT v 0 7 = v 7 := rfl
  have h8 : mT v 0 8 = v 8 := rfl
  rw [mC1, hb, h7, h8]
theorem mPaid_c {v w : MS} {k : Nat} (h0 : w 0 5 = v 0 5) (h2 : w 2 = v 2) (h15 : w 15 = v 15) (h16 : w 16 = v 16) (h17 : w 17 = v 17) : mPaid w k = mPaid v k := by
  have e1 : mRal w = mRal v := by
    funext k
    simp only [mRal, h16]
  have e2 : mRsm w = mRsm v := by
    funext k
    simp only [mRsm, h16, h17]
  simp only [mPaid, mOwn, mRep, e1, e2, h0, h2, h15]
theorem mPays_c {v w : MS} {k : Nat} (h0 : w 0 3 = v 0 3) (h15 : w 15 = v 15) : mPays w k = mPays v k := by
  simp only [mPays, h0, h15]
set_option maxHeartbeats 4000000 in
set_option maxRecDepth 100000 in
theorem c_X3_setCurve (l : Launch) (G : va_G) (y : Nat → ClassId) (a : Nat → Nat) (v : MS) (sz : Nat) (x r : Int32) : Met l yX3_setCurve wsX3_setCurve ({ frames := 1, cells := 0, slots := 0, locals := 22 }) (mP G y [.ref (a 0), .int x, .int r] (mdW y a v) sz) (mQ G (fun _ : Unit => some (.int (mSetCurve v x r).2)) (fun _ => True) (fun _ => mdW y a (mSetCurve v x r).1) (va_A (mdW y a v) sz)) 0 0 (va_A (mdW y a v) sz) := by
  refine Met.ofW (cc := cX3_setCurve) (maxL := 4) (ret := (some .int)) (by decide) rfl ?_
  intro p e s m args below meth c s₁ B hml hv
  obtain ⟨rfl, hsz, hP, hK, hD0⟩ := hv
  have hx := B.exec
  have hb := B.bytes
  have hr := B.returns
  have hts := atoms_spec (ws := wsX3_setCurve) B.pre
  have hown : s.vm.findClass RX3 = some m.cls := findClass_of_methodNamed B.named
  have hlocks := B.notSynchronized
  subst hsz
  have hD := hD0.self (sz := s.heap.size)
  generalize hAe : va_A (mdW y a v) s.heap.size = A at hD ⊢
  have hA : ∀ q : Nat, s.heap.size ≤ q → A q := fun q h => by rw [← hAe]; exact Or.inr h
  have hS : va_S A s.heap s.heap [] := va_S.rf
  have hP : va_P G vwCl (mdW y a v) s.heap := hP
  have hl := lv_entry ([.ref (a 0), .int x, .int r]) (n := 4) (Nat.le_of_ble_eq_true rfl)
  rw [lg_entry_eq]
  generalize (lg_sl ([.ref (a 0), .int x, .int r]) ++ List.replicate (4 - (lg_sl ([.ref (a 0), .int x, .int r])).length) Slot.unset).toArray = ls at hl ⊢
  have hin3 : ∀ w ∈ wsX30, w ∈ wsX3_setCurve := by decide +kernel
  have hl : lv_has ls 4 [(0, .ref (a 0)), (1, .int x), (2, .int r)] := hl
  refine lv_aload_n hx hb dX3_setCurve_0 rfl (lv_at hl 0 rfl) ?_
  refine lv_iconst (v := 0) hx hb dX3_setCurve_1 (by decide) ?_
  refine mdS (v := v) (x := 0) hx hb hts hin3 hown hK hP hD hS 0 (by decide) (hts (.fieldLink RX3 63 "FundBookModel" "thrown" "I") (by decide +kernel)) dX3_setCurve_2 (fun H locs hP hD hS => ?_)
  refine lv_iload_n hx hb dX3_setCurve_5 rfl (lv_at hl 1 rfl) ?_
  refine lv_iconst (v := 1) hx hb dX3_setCurve_6 (by decide) ?_
  refine lv_bipush (v := 6) hx hb dX3_setCurve_7 (by decide) ?_
  refine caR (r := .int (mIn x 1 6)) (va_runS (As := [.int x, .int 1, .int 6]) (rest := []) ⟨hx, hb, hml, hown, hts⟩ (c_X3_in l x 1 6) (va_cwS 3 hts gX3_setCurve_X3_in rfl rfl rfl (by decide +kernel) ⟨Nat.le_of_ble_eq_true rfl, Nat.le_of_ble_eq_true rfl⟩) ⟨nP_bl, fun _ _ _ => ⟨rfl, trivial⟩⟩ rfl rfl hl.1 rfl (lv_room (Nat.le_of_ble_eq_true rfl)) dX3_setCurve_9 ⟨Nat.le_of_ble_eq_true rfl, Nat.le_of_ble_eq_true rfl⟩) ?_
  refine lv_if_ne (tgt := 21) hx hb dX3_setCurve_12 (by decide) (fun c_12 => ?_) (fun c_12 => ?_)
  · refine lv_iload_n hx hb dX3_setCurve_21 rfl (lv_at hl 2 rfl) ?_
    refine lv_iconst (v := 0) hx hb dX3_setCurve_22 (by decide) ?_
    refine lv_sipush (v := 5000) hx hb dX3_setCurve_23 (by decide) ?_
    refine caR (r := .int (mIn r 0 5000)) (va_runS (As := [.int r, .int 0, .int 5000]) (rest := []) ⟨hx, hb, hml, hown, hts⟩ (c_X3_in l r 0 5000) (va_cwS 3 hts gX3_setCurve_X3_in rfl rfl rfl (by decide +kernel) ⟨Nat.le_of_ble_eq_true rfl, Nat.le_of_ble_eq_true rfl⟩) ⟨nP_bl, fun _ _ _ => ⟨rfl, trivial⟩⟩ rfl rfl hl.1 rfl (lv_room (Nat.le_of_ble_eq_true rfl)) dX3_setCurve_26 ⟨Nat.le_of_ble_eq_true rfl, Nat.le_of_ble_eq_true rfl⟩) ?_
    refine lv_if_ne (tgt := 38) hx hb dX3_setCurve_29 (by decide) (fun c_29 => ?_) (fun c_29 => ?_)
    · obtain ⟨i, hi, hi1, rfl⟩ := in1N (M := 6) c_12 (by decide)
      refine lv_aload_n hx hb dX3_setCurve_38 rfl (lv_at hl 0 rfl) ?_
      refine mdG (v := (u2 v 0 0 0)) (val := .ref (a 2)) hx hb hts hin3 hown hK hP 2 (by decide) (hts (.fieldLink RX3 7 "FundBookModel" "curve" "[I") (by decide +kernel)) rfl dX3_setCurve_39 ?_
      refine lv_iload_n hx hb dX3_setCurve_42 rfl (lv_at hl 1 rfl) ?_
      refine ldI (f := v 2) hx hb hK hP 1 rfl i rfl (by omega) (by decide) dX3_setCurve_43 ?_
      refine lv_istore_n (lv' := [(3, .int (v 2 i)), (0, .ref (a 0)), (1, .int (nI i)), (2, .int r)]) hx hb dX3_setCurve_44 rfl hl (by decide) rfl (fun ls hl => ?_)
      refine lv_aload_n hx hb dX3_setCurve_45 rfl (lv_at hl 1 rfl) ?_
      refine mdG (v := (u2 v 0 0 0)) (val := .ref (a 2)) hx hb hts hin3 hown hK hP 2 (by decide) (hts (.fieldLink RX3 7 "FundBookModel" "curve" "[I") (by decide +kernel)) rfl dX3_setCurve_46 ?_
      refine lv_iload_n hx hb dX3_setCurve_49 rfl (lv_at hl 2 rfl) ?_
      refine lv_iload_n hx hb dX3_setCurve_50 rfl (lv_at hl 3 rfl) ?_
      refine stI (f := (u2 v 0 0 0) 2) (ws1 := mdW y a (u2 (u2 v 0 0 0) 2 i r)) hx hb hK hP hD hS 1 mg_2 i rfl (by omega) (by decide) ms_2 dX3_setCurve_51 (fun H locs hP hD hS => ?_)
      refine lv_iload_n hx hb dX3_setCurve_52 rfl (lv_at hl 0 rfl) ?_
      have ev : mSetCurve v (nI i) r = ((u2 (u2 v 0 0 0) 2 i r), v 2 i) := by unfold mSetCurve; rw [cnI (by omega)]; exact (if_neg c_12).trans ((if_neg c_29))
      exact W.iret (v := v 2 i) hx hb hr (fun t ht hW => ⟨⟨(), by rw [ev], trivial, by rw [ht, ev]; exact hP, by rw [ev]; exact hD⟩, hS.F ht⟩) hS.2.2 dX3_setCurve_53
    · refine lv_aload_n hx hb dX3_setCurve_32 rfl (lv_at hl 0 rfl) ?_
      refine lv_iconst (v := 2) hx hb dX3_setCurve_33 (by decide) ?_
      refine caM (va_runV (As := [.int 2]) (rest := []) ⟨hx, hb, hml, hown, hts⟩ (c_X3_fails l G y a (u2 v 0 0 0) H.size 2) (cwV 1 hts gX3_setCurve_X3_fails rfl rfl rfl (by decide +kernel) ⟨Nat.le_of_ble_eq_true rfl, Nat.le_of_ble_eq_true rfl⟩) ⟨mP_bl, va_recv hK.1 hP (ci := 3) (q0 := 0) rfl rfl, fun U hU hW => ⟨rfl, by rw [hU], by rw [hU]; exact hP, Kb.moved hW hK, hD.weaken (fun _ _ _ _ => trivial)⟩⟩ rfl rfl hl.1 rfl (lv_room (Nat.le_of_ble_eq_true rfl)) dX3_setCurve_34 ⟨Nat.le_of_ble_eq_true rfl, Nat.le_of_ble_eq_true rfl⟩) hS (freeW hD hS hA) (freeW hD hS hA) (fun _ H locs _ hP hD _ _ hS => ?_)
      refine W.eq (g2 := F0 m 37 ls [.int 0]) rfl ?_
      have hP : va_P G vwCl (mdW y a (u2 (u2 v 0 0 0) 0 0 2)) H := hP
      have hD : va_D A (mdW y a (u2 (u2 v 0 0 0) 0 0 2)) := hD
      have ev : mSetCurve v x r = ((u2 (u2 v 0 0 0) 0 0 2), 0) := by unfold mSetCurve; exact (if_neg c_12).trans ((if_pos c_29))
      exact W.iret (v := 0) hx hb hr (fun t ht hW => ⟨⟨(), by rw [ev], trivial, by rw [ht, ev]; exact hP, by rw [ev]; exact hD⟩, hS.F ht⟩) hS.2.2 dX3_setCurve_37
  · refine lv_aload_n hx hb dX3_setCurve_15 rfl (lv_at hl 0 rfl) ?_
    refine lv_iconst (v := 1) hx hb dX3_setCurve_16 (by decide) ?_
    refine caM (va_runV (As := [.int 1]) (rest := []) ⟨hx, hb, hml, hown, hts⟩ (c_X3_fails l G y a (u2 v 0 0 0) H.size 1) (cwV 1 hts gX3_setCurve_X3_fails rfl rfl rfl (by decide +kernel) ⟨Nat.le_of_ble_eq_true rfl, Nat.le_of_ble_eq_true rfl⟩) ⟨mP_bl, va_recv hK.1 hP (ci := 3) (q0 := 0) rfl rfl, fun U hU hW => ⟨rfl, by rw [hU], by rw [hU]; exact hP, Kb.moved hW hK, hD.weaken (fun _ _ _ _ => trivial)⟩⟩ rfl rfl hl.1 rfl (lv_room (Nat.le_of_ble_eq_true rfl)) dX3_setCurve_17 ⟨Nat.le_of_ble_eq_true rfl, Nat.le_of_ble_eq_true rfl⟩) hS (freeW hD hS hA) (freeW hD hS hA) (fun _ H locs _ hP hD _ _ hS => ?_)
    refine W.eq (g2 := F0 m 20 ls [.int 0]) rfl ?_
    have hP : va_P G vwCl (mdW y a (u2 (u2 v 0 0 0) 0 0 1)) H := hP
    have hD : va_D A (mdW y a (u2 (u2 v 0 0 0) 0 0 1)) := hD
    have ev : mSetCurve v x r = ((u2 (u2 v 0 0 0) 0 0 1), 0) := by unfold mSetCurve; exact (if_pos c_12)
    exact W.iret (v := 0) hx hb hr (fun t ht hW => ⟨⟨(), by rw [ev], trivial, by rw [ht, ev]; exact hP, by rw [ev]; exact hD⟩, hS.F ht⟩) hS.2.2 dX3_setCurve_20
set_option maxHeartbeats 4000000 in
set_option maxRecDepth 100000 in
theorem c_X3_setRates (l : Launch) (G : va_G) (y : Nat → ClassId) (a : Nat → Nat) (v : MS) (sz : Nat) (d o c0 : Int32) : Met l yX3_setRates wsX3_setRates ({ frames := 1, cells := 0, slots := 0, locals := 22 }) (mP G y [.ref (a 0), .int d, .int o, .int c0] (mdW y a v) sz) (mQ G (fun _ : Unit => none) (fun _ => True) (fun _ => mdW y a (mSetRates v d o c0)) (va_A (mdW y a v) sz)) 0 0 (va_A (mdW y a v) sz) := by
  refine Met.ofW (cc := cX3_setRates) (maxL := 4) (ret := none) (by decide) rfl ?_
  intro p e s m args below meth c s₁ B hml hv
  obtain ⟨rfl, hsz, hP, hK, hD0⟩ := hv
  have hx := B.exec
  have hb := B.bytes
  have hr := B.returns
  have hts := atoms_spec (ws := wsX3_setRates) B.pre
  have hown : s.vm.findClass RX3 = some m.cls := findClass_of_methodNamed B.named
  have hlocks := B.notSynchronized
  subst hsz
  have hD := hD0.self (sz := s.heap.size)
  generalize hAe : va_A (mdW y a v) s.heap.size = A at hD ⊢
  have hA : ∀ q : Nat, s.heap.size ≤ q → A q := fun q h => by rw [← hAe]; exact Or.inr h
  have hS : va_S A s.heap s.heap [] := va_S.rf
  have hP : va_P G vwCl (mdW y a v) s.heap := hP
  have hl := lv_entry ([.ref (a 0), .int d, .int o, .int c0]) (n := 4) (Nat.le_of_ble_eq_true rfl)
  rw [lg_entry_eq]
  generalize (lg_sl ([.ref (a 0), .int d, .int o, .int c0]) ++ List.replicate (4 - (lg_sl ([.ref (a 0), .int d, .int o, .int c0])).length) Slot.unset).toArray = ls at hl ⊢
  have hin3 : ∀ w ∈ wsX30, w ∈ wsX3_setRates := by decide +kernel
  have hl : lv_has ls 4 [(0, .ref (a 0)), (1, .int d), (2, .int o), (3, .int c0)] := hl
  refine lv_aload_n hx hb dX3_setRates_0 rfl (lv_at hl 0 rfl) ?_
  refine lv_iload_n hx hb dX3_setRates_1 rfl (lv_at hl 1 rfl) ?_
  refine lv_iconst (v := 0) hx hb dX3_setRates_2 (by decide) ?_
  refine lv_sipush (v := 5000) hx hb dX3_setRates_3 (by decide) ?_
  refine caR (r := .int (mIn d 0 5000)) (va_runS (As := [.int d, .int 0, .int 5000]) (rest := [.ref (a 0)]) ⟨hx, hb, hml, hown, hts⟩ (c_X3_in l d 0 5000) (va_cwS 3 hts gX3_setRates_X3_in rfl rfl rfl (by decide +kernel) ⟨Nat.le_of_ble_eq_true rfl, Nat.le_of_ble_eq_true rfl⟩) ⟨nP_bl, fun _ _ _ => ⟨rfl, trivial⟩⟩ rfl rfl hl.1 rfl (lv_room (Nat.le_of_ble_eq_true rfl)) dX3_setRates_6 ⟨Nat.le_of_ble_eq_true rfl, Nat.le_of_ble_eq_true rfl⟩) ?_
  refine lv_if_eq (tgt := 37) hx hb dX3_setRates_9 (by decide) (fun c_9 => ?_) (fun c_9 => ?_)
  · refine lv_iconst (v := 1) hx hb dX3_setRates_37 (by decide) ?_
    refine mdS (v := v) (x := 1) hx hb hts hin3 hown hK hP hD hS 0 (by decide) (hts (.fieldLink RX3 63 "FundBookModel" "thrown" "I") (by decide +kernel)) dX3_setRates_38 (fun H locs hP hD hS => ?_)
    refine lv_aload_n hx hb dX3_setRates_41 rfl (lv_at hl 0 rfl) ?_
    refine mdG (v := (u2 v 0 0 1)) (val := .int 1) hx hb hts hin3 hown hK hP 0 (by decide) (hts (.fieldLink RX3 63 "FundBookModel" "thrown" "I") (by decide +kernel)) rfl dX3_setRates_42 ?_
    refine lv_if_ne (tgt := 63) hx hb dX3_setRates_45 (by decide) (fun c_45 => ?_) (fun c_45 => absurd c_45 (by decide))
    have ev : mSetRates v d o c0 = (u2 v 0 0 1) := by unfold mSetRates; exact if_pos (Or.inl c_9)
    exact W.vret hx hb hr (fun t ht hW => ⟨⟨(), rfl, trivial, by rw [ht, ev]; exact hP, by rw [ev]; exact hD⟩, hS.F ht⟩) hS.2.2 dX3_setRates_63
  · refine lv_iload_n hx hb dX3_setRates_12 rfl (lv_at hl 2 rfl) ?_
    refine lv_iconst (v := 0) hx hb dX3_setRates_13 (by decide) ?_
    refine lv_sipush (v := 5000) hx hb dX3_setRates_14 (by decide) ?_
    refine caR (r := .int (mIn o 0 5000)) (va_runS (As := [.int o, .int 0, .int 5000]) (rest := [.ref (a 0)]) ⟨hx, hb, hml, hown, hts⟩ (c_X3_in l o 0 5000) (va_cwS 3 hts gX3_setRates_X3_in rfl rfl rfl (by decide +kernel) ⟨Nat.le_of_ble_eq_true rfl, Nat.le_of_ble_eq_true rfl⟩) ⟨nP_bl, fun _ _ _ => ⟨rfl, trivial⟩⟩ rfl rfl hl.1 rfl (lv_room (Nat.le_of_ble_eq_true rfl)) dX3_setRates_17 ⟨Nat.le_of_ble_eq_true rfl, Nat.le_of_ble_eq_true rfl⟩) ?_
    refine lv_if_eq (tgt := 37) hx hb dX3_setRates_20 (by decide) (fun c_20 => ?_) (fun c_20 => ?_)
    · refine lv_iconst (v := 1) hx hb dX3_setRates_37 (by decide) ?_
      refine mdS (v := v) (x := 1) hx hb hts hin3 hown hK hP hD hS 0 (by decide) (hts (.fieldLink RX3 63 "FundBookModel" "thrown" "I") (by decide +kernel)) dX3_setRates_38 (fun H locs hP hD hS => ?_)
      refine lv_aload_n hx hb dX3_setRates_41 rfl (lv_at hl 0 rfl) ?_
      refine mdG (v := (u2 v 0 0 1)) (val := .int 1) hx hb hts hin3 hown hK hP 0 (by decide) (hts (.fieldLink RX3 63 "FundBookModel" "thrown" "I") (by decide +kernel)) rfl dX3_setRates_42 ?_
      refine lv_if_ne (tgt := 63) hx hb dX3_setRates_45 (by decide) (fun c_45 => ?_) (fun c_45 => absurd c_45 (by decide))
      have ev : mSetRates v d o c0 = (u2 v 0 0 1) := by unfold mSetRates; exact if_pos (Or.inr (Or.inl c_20))
      exact W.vret hx hb hr (fun t ht hW => ⟨⟨(), rfl, trivial, by rw [ht, ev]; exact hP, by rw [ev]; exact hD⟩, hS.F ht⟩) hS.2.2 dX3_setRates_63
    · refine lv_iload_n hx hb dX3_setRates_23 rfl (lv_at hl 3 rfl) ?_
      refine lv_iconst (v := 0) hx hb dX3_setRates_24 (by decide) ?_
      refine lv_bipush (v := 100) hx hb dX3_setRates_25 (by decide) ?_
      refine caR (r := .int (mIn c0 0 100)) (va_runS (As := [.int c0, .int 0, .int 100]) (rest := [.ref (a 0)]) ⟨hx, hb, hml, hown, hts⟩ (c_X3_in l c0 0 100) (va_cwS 3 hts gX3_setRates_X3_in rfl rfl rfl (by decide +kernel) ⟨Nat.le_of_ble_eq_true rfl, Nat.le_of_ble_eq_true rfl⟩) ⟨nP_bl, fun _ _ _ => ⟨rfl, trivial⟩⟩ rfl rfl hl.1 rfl (lv_room (Nat.le_of_ble_eq_true rfl)) dX3_setRates_27 ⟨Nat.le_of_ble_eq_true rfl, Nat.le_of_ble_eq_true rfl⟩) ?_
      refine lv_if_eq (tgt := 37) hx hb dX3_setRates_30 (by decide) (fun c_30 => ?_) (fun c_30 => ?_)
      · refine lv_iconst (v := 1) hx hb dX3_setRates_37 (by decide) ?_
        refine mdS (v := v) (x := 1) hx hb hts hin3 hown hK hP hD hS 0 (by decide) (hts (.fieldLink RX3 63 "FundBookModel" "thrown" "I") (by decide +kernel)) dX3_setRates_38 (fun H locs hP hD hS => ?_)
        refine lv_aload_n hx hb dX3_setRates_41 rfl (lv_at hl 0 rfl) ?_
        refine mdG (v := (u2 v 0 0 1)) (val := .int 1) hx hb hts hin3 hown hK hP 0 (by decide) (hts (.fieldLink RX3 63 "FundBookModel" "thrown" "I") (by decide +kernel)) rfl dX3_setRates_42 ?_
        refine lv_if_ne (tgt := 63) hx hb dX3_setRates_45 (by decide) (fun c_45 => ?_) (fun c_45 => absurd c_45 (by decide))
        have ev : mSetRates v d o c0 = (u2 v 0 0 1) := by unfold mSetRates; exact if_pos (Or.inr (Or.inr c_30))
        exact W.vret hx hb hr (fun t ht hW => ⟨⟨(), rfl, trivial, by rw [ht, ev]; exact hP, by rw [ev]; exact hD⟩, hS.F ht⟩) hS.2.2 dX3_setRates_63
      · refine lv_iconst (v := 0) hx hb dX3_setRates_33 (by decide) ?_
        refine lv_goto (tgt := 38) hx hb dX3_setRates_34 (by decide) ?_
        refine mdS (v := v) (x := 0) hx hb hts hin3 hown hK hP hD hS 0 (by decide) (hts (.fieldLink RX3 63 "FundBookModel" "thrown" "I") (by decide +kernel)) dX3_setRates_38 (fun H locs hP hD hS => ?_)
        refine lv_aload_n hx hb dX3_setRates_41 rfl (lv_at hl 0 rfl) ?_
        refine mdG (v := (u2 v 0 0 0)) (val := .int 0) hx hb hts hin3 hown hK hP 0 (by decide) (hts (.fieldLink RX3 63 "FundBookModel" "thrown" "I") (by decide +kernel)) rfl dX3_setRates_42 ?_
        refine lv_if_ne (tgt := 63) hx hb dX3_setRates_45 (by decide) (fun c_45 => absurd rfl c_45) (fun c_45 => ?_)
        refine lv_aload_n hx hb dX3_setRates_48 rfl (lv_at hl 0 rfl) ?_
        refine lv_iload_n hx hb dX3_setRates_49 rfl (lv_at hl 1 rfl) ?_
        refine mdS (v := (u2 v 0 0 0)) (x := d) hx hb hts hin3 hown hK hP hD hS 3 (by decide) (hts (.fieldLink RX3 80 "FundBookModel" "depositRate" "I") (by decide +kernel)) dX3_setRates_50 (fun H locs hP hD hS => ?_)
        refine lv_aload_n hx hb dX3_setRates_53 rfl (lv_at hl 0 rfl) ?_
        refine lv_iload_n hx hb dX3_setRates_54 rfl (lv_at hl 2 rfl) ?_
        refine mdS (v := (u2 (u2 v 0 0 0) 0 3 d)) (x := o) hx hb hts hin3 hown hK hP hD hS 4 (by decide) (hts (.fieldLink RX3 83 "FundBookModel" "optionRate" "I") (by decide +kernel)) dX3_setRates_55 (fun H locs hP hD hS => ?_)
        refine lv_aload_n hx hb dX3_setRates_58 rfl (lv_at hl 0 rfl) ?_
        refine lv_iload_n hx hb dX3_setRates_59 rfl (lv_at hl 3 rfl) ?_
        refine mdS (v := (u2 (u2 (u2 v 0 0 0) 0 3 d) 0 4 o)) (x := c0) hx hb hts hin3 hown hK hP hD hS 5 (by decide) (hts (.fieldLink RX3 13 "FundBookModel" "share" "I") (by decide +kernel)) dX3_setRates_60 (fun H locs hP hD hS => ?_)
        have ev : mSetRates v d o c0 = (u2 (u2 (u2 (u2 v 0 0 0) 0 3 d) 0 4 o) 0 5 c0) := by unfold mSetRates; exact if_neg (fun q => q.elim c_9 (fun q => q.elim c_20 c_30))
        exact W.vret hx hb hr (fun t ht hW => ⟨⟨(), rfl, trivial, by rw [ht, ev]; exact hP, by rw [ev]; exact hD⟩, hS.F ht⟩) hS.2.2 dX3_setRates_63
set_option maxHeartbeats 4000000 in
set_option maxRecDepth 100000 in
theorem c_X3_lend (l : Launch) (G : va_G) (y : Nat → ClassId) (a : Nat → Nat) (v : MS) (sz : Nat) (br pr am rt mo op : Int32) (n : Nat) (hn : v 0 6 = nI n) (hn24 : n ≤ 24) (hop : op = 0 ∨ op = 1) : Met l yX3_lend wsX3_lend ({ frames := 2, cells := 0, slots := 0, locals := 42 }) (mP G y [.ref (a 0), .int br, .int pr, .int am, .int rt, .int mo, .int op] (mdW y a v) sz) (mQ G (fun _ : Unit => some (.int (mLend v n br pr am rt mo op).2)) (fun _ => True) (fun _ => mdW y a (mLend v n br pr am rt mo op).1) (va_A (mdW y a v) sz)) 0 0 (va_A (mdW y a v) sz) := by
  refine Met.ofW (cc := cX3_lend) (maxL := 8) (ret := (some .int)) (by decide) rfl ?_
  intro p e s m args below meth c s₁ B hml hv
  obtain ⟨rfl, hsz, hP, hK, hD0⟩ := hv
  have hx := B.exec
  have hb := B.bytes
  have hr := B.returns
  have hts := atoms_spec (ws := wsX3_lend) B.pre
  have hown : s.vm.findClass RX3 = some m.cls := findClass_of_methodNamed B.named
  have hlocks := B.notSynchronized
  subst hsz
  have hD := hD0.self (sz := s.heap.size)
  generalize hAe : va_A (mdW y a v) s.heap.size = A at hD ⊢
  have hA : ∀ q : Nat, s.heap.size ≤ q → A q := fun q h => by rw [← hAe]; exact Or.inr h
  have hS : va_S A s.heap s.heap [] := va_S.rf
  have hP : va_P G vwCl (mdW y a v) s.heap := hP
  have hl := lv_entry ([.ref (a 0), .int br, .int pr, .int am, .int rt, .int mo, .int op]) (n := 8) (Nat.le_of_ble_eq_true rfl)
  rw [lg_entry_eq]
  generalize (lg_sl ([.ref (a 0), .int br, .int pr, .int am, .int rt, .int mo, .int op]) ++ List.replicate (8 - (lg_sl ([.ref (a 0), .int br, .int pr, .int am, .int rt, .int mo, .int op])).length) Slot.unset).toArray = ls at hl ⊢
  have hin3 : ∀ w ∈ wsX30, w ∈ wsX3_lend := by decide +kernel
  have hl : lv_has ls 8 [(0, .ref (a 0)), (1, .int br), (2, .int pr), (3, .int am), (4, .int rt), (5, .int mo), (6, .int op)] := hl
  refine lv_aload_n hx hb dX3_lend_0 rfl (lv_at hl 0 rfl) ?_
  refine lv_iconst (v := 0) hx hb dX3_lend_1 (by decide) ?_
  refine mdS (v := v) (x := 0) hx hb hts hin3 hown hK hP hD hS 0 (by decide) (hts (.fieldLink RX3 63 "FundBookModel" "thrown" "I") (by decide +kernel)) dX3_lend_2 (fun H locs hP hD hS => ?_)
  refine lv_iload_n hx hb dX3_lend_5 rfl (lv_at hl 1 rfl) ?_
  refine caR (r := .int (mIn br 0 2)) (va_runS (As := [.int br]) (rest := []) ⟨hx, hb, hml, hown, hts⟩ (c_X3_isBranch l br) (va_cwS 1 hts gX3_lend_X3_isBranch rfl rfl rfl (by decide +kernel) ⟨Nat.le_of_ble_eq_true rfl, Nat.le_of_ble_eq_true rfl⟩) ⟨nP_bl, fun _ _ _ => ⟨rfl, trivial⟩⟩ rfl rfl hl.1 rfl (lv_room (Nat.le_of_ble_eq_true rfl)) dX3_lend_6 ⟨Nat.le_of_ble_eq_true rfl, Nat.le_of_ble_eq_true rfl⟩) ?_
  refine lv_if_eq (tgt := 21) hx hb dX3_lend_9 (by decide) (fun c_9 => ?_) (fun c_9 => ?_)
  · refine lv_aload_n hx hb dX3_lend_21 rfl (lv_at hl 0 rfl) ?_
    refine lv_iconst (v := 1) hx hb dX3_lend_22 (by decide) ?_
    refine caM (va_runV (As := [.int 1]) (rest := []) ⟨hx, hb, hml, hown, hts⟩ (c_X3_fails l G y a (u2 v 0 0 0) H.size 1) (cwV 1 hts gX3_lend_X3_fails rfl rfl rfl (by decide +kernel) ⟨Nat.le_of_ble_eq_true rfl, Nat.le_of_ble_eq_true rfl⟩) ⟨mP_bl, va_recv hK.1 hP (ci := 3) (q0 := 0) rfl rfl, fun U hU hW => ⟨rfl, by rw [hU], by rw [hU]; exact hP, Kb.moved hW hK, hD.weaken (fun _ _ _ _ => trivial)⟩⟩ rfl rfl hl.1 rfl (lv_room (Nat.le_of_ble_eq_true rfl)) dX3_lend_23 ⟨Nat.le_of_ble_eq_true rfl, Nat.le_of_ble_eq_true rfl⟩) hS (freeW hD hS hA) (freeW hD hS hA) (fun _ H locs _ hP hD _ _ hS => ?_)
    refine W.eq (g2 := F0 m 26 ls [.int 0]) rfl ?_
    have hP : va_P G vwCl (mdW y a (u2 (u2 v 0 0 0) 0 0 1)) H := hP
    have hD : va_D A (mdW y a (u2 (u2 v 0 0 0) 0 0 1)) := hD
    have ev : mLend v n br pr am rt mo op = ((u2 (u2 v 0 0 0) 0 0 1), 0) := by unfold mLend; exact (if_pos (Or.inl c_9))
    exact W.iret (v := 0) hx hb hr (fun t ht hW => ⟨⟨(), by rw [ev], trivial, by rw [ht, ev]; exact hP, by rw [ev]; exact hD⟩, hS.F ht⟩) hS.2.2 dX3_lend_26
  · refine lv_iload_n hx hb dX3_lend_12 rfl (lv_at hl 2 rfl) ?_
    refine lv_iconst (v := 0) hx hb dX3_lend_13 (by decide) ?_
    refine lv_iconst (v := 2) hx hb dX3_lend_14 (by decide) ?_
    refine caR (r := .int (mIn pr 0 2)) (va_runS (As := [.int pr, .int 0, .int 2]) (rest := []) ⟨hx, hb, hml, hown, hts⟩ (c_X3_in l pr 0 2) (va_cwS 3 hts gX3_lend_X3_in rfl rfl rfl (by decide +kernel) ⟨Nat.le_of_ble_eq_true rfl, Nat.le_of_ble_eq_true rfl⟩) ⟨nP_bl, fun _ _ _ => ⟨rfl, trivial⟩⟩ rfl rfl hl.1 rfl (lv_room (Nat.le_of_ble_eq_true rfl)) dX3_lend_15 ⟨Nat.le_of_ble_eq_true rfl, Nat.le_of_ble_eq_true rfl⟩) ?_
    refine lv_if_ne (tgt := 27) hx hb dX3_lend_18 (by decide) (fun c_18 => ?_) (fun c_18 => ?_)
    · refine lv_iload_n hx hb dX3_lend_27 rfl (lv_at hl 3 rfl) ?_
      refine lv_iconst (v := 1) hx hb dX3_lend_28 (by decide) ?_
      refine lv_ldc (v := 10000000) hx hb hown (hts (.constant RX3 95 10000000) (by decide +kernel)) dX3_lend_29 ?_
      refine caR (r := .int (mIn am 1 10000000)) (va_runS (As := [.int am, .int 1, .int 10000000]) (rest := []) ⟨hx, hb, hml, hown, hts⟩ (c_X3_in l am 1 10000000) (va_cwS 3 hts gX3_lend_X3_in rfl rfl rfl (by decide +kernel) ⟨Nat.le_of_ble_eq_true rfl, Nat.le_of_ble_eq_true rfl⟩) ⟨nP_bl, fun _ _ _ => ⟨rfl, trivial⟩⟩ rfl rfl hl.1 rfl (lv_room (Nat.le_of_ble_eq_true rfl)) dX3_lend_31 ⟨Nat.le_of_ble_eq_true rfl, Nat.le_of_ble_eq_true rfl⟩) ?_
      refine lv_if_eq (tgt := 60) hx hb dX3_lend_34 (by decide) (fun c_34 => ?_) (fun c_34 => ?_)
      · refine lv_aload_n hx hb dX3_lend_60 rfl (lv_at hl 0 rfl) ?_
        refine lv_iconst (v := 2) hx hb dX3_lend_61 (by decide) ?_
        refine caM (va_runV (As := [.int 2]) (rest := []) ⟨hx, hb, hml, hown, hts⟩ (c_X3_fails l G y a (u2 v 0 0 0) H.size 2) (cwV 1 hts gX3_lend_X3_fails rfl rfl rfl (by decide +kernel) ⟨Nat.le_of_ble_eq_true rfl, Nat.le_of_ble_eq_true rfl⟩) ⟨mP_bl, va_recv hK.1 hP (ci := 3) (q0 := 0) rfl rfl, fun U hU hW => ⟨rfl, by rw [hU], by rw [hU]; exact hP, Kb.moved hW hK, hD.weaken (fun _ _ _ _ => trivial)⟩⟩ rfl rfl hl.1 rfl (lv_room (Nat.le_of_ble_eq_true rfl)) dX3_lend_62 ⟨Nat.le_of_ble_eq_true rfl, Nat.le_of_ble_eq_true rfl⟩) hS (freeW hD hS hA) (freeW hD hS hA) (fun _ H locs _ hP hD _ _ hS => ?_)
        refine W.eq (g2 := F0 m 65 ls [.int 0]) rfl ?_
        have hP : va_P G vwCl (mdW y a (u2 (u2 v 0 0 0) 0 0 2)) H := hP
        have hD : va_D A (mdW y a (u2 (u2 v 0 0 0) 0 0 2)) := hD
        have ev : mLend v n br pr am rt mo op = ((u2 (u2 v 0 0 0) 0 0 2), 0) := by unfold mLend; exact (if_neg (fun q => q.elim c_9 c_18)).trans ((if_pos (Or.inl c_34)))
        exact W.iret (v := 0) hx hb hr (fun t ht hW => ⟨⟨(), by rw [ev], trivial, by rw [ht, ev]; exact hP, by rw [ev]; exact hD⟩, hS.F ht⟩) hS.2.2 dX3_lend_65
      · refine lv_iload hx hb dX3_lend_37 (lv_at hl 4 rfl) ?_
        refine lv_iconst (v := 0) hx hb dX3_lend_39 (by decide) ?_
        refine lv_sipush (v := 5000) hx hb dX3_lend_40 (by decide) ?_
        refine caR (r := .int (mIn rt 0 5000)) (va_runS (As := [.int rt, .int 0, .int 5000]) (rest := []) ⟨hx, hb, hml, hown, hts⟩ (c_X3_in l rt 0 5000) (va_cwS 3 hts gX3_lend_X3_in rfl rfl rfl (by decide +kernel) ⟨Nat.le_of_ble_eq_true rfl, Nat.le_of_ble_eq_true rfl⟩) ⟨nP_bl, fun _ _ _ => ⟨rfl, trivial⟩⟩ rfl rfl hl.1 rfl (lv_room (Nat.le_of_ble_eq_true rfl)) dX3_lend_43 ⟨Nat.le_of_ble_eq_true rfl, Nat.le_of_ble_eq_true rfl⟩) ?_
        refine lv_if_eq (tgt := 60) hx hb dX3_lend_46 (by decide) (fun c_46 => ?_) (fun c_46 => ?_)
        · refine lv_aload_n hx hb dX3_lend_60 rfl (lv_at hl 0 rfl) ?_
          refine lv_iconst (v := 2) hx hb dX3_lend_61 (by decide) ?_
          refine caM (va_runV (As := [.int 2]) (rest := []) ⟨hx, hb, hml, hown, hts⟩ (c_X3_fails l G y a (u2 v 0 0 0) H.size 2) (cwV 1 hts gX3_lend_X3_fails rfl rfl rfl (by decide +kernel) ⟨Nat.le_of_ble_eq_true rfl, Nat.le_of_ble_eq_true rfl⟩) ⟨mP_bl, va_recv hK.1 hP (ci := 3) (q0 := 0) rfl rfl, fun U hU hW => ⟨rfl, by rw [hU], by rw [hU]; exact hP, Kb.moved hW hK, hD.weaken (fun _ _ _ _ => trivial)⟩⟩ rfl rfl hl.1 rfl (lv_room (Nat.le_of_ble_eq_true rfl)) dX3_lend_62 ⟨Nat.le_of_ble_eq_true rfl, Nat.le_of_ble_eq_true rfl⟩) hS (freeW hD hS hA) (freeW hD hS hA) (fun _ H locs _ hP hD _ _ hS => ?_)
          refine W.eq (g2 := F0 m 65 ls [.int 0]) rfl ?_
          have hP : va_P G vwCl (mdW y a (u2 (u2 v 0 0 0) 0 0 2)) H := hP
          have hD : va_D A (mdW y a (u2 (u2 v 0 0 0) 0 0 2)) := hD
          have ev : mLend v n br pr am rt mo op = ((u2 (u2 v 0 0 0) 0 0 2), 0) := by unfold mLend; exact (if_neg (fun q => q.elim c_9 c_18)).trans ((if_pos (Or.inr (Or.inl c_46))))
          exact W.iret (v := 0) hx hb hr (fun t ht hW => ⟨⟨(), by rw [ev], trivial, by rw [ht, ev]; exact hP, by rw [ev]; exact hD⟩, hS.F ht⟩) hS.2.2 dX3_lend_65
        · refine lv_iload hx hb dX3_lend_49 (lv_at hl 5 rfl) ?_
          refine lv_iconst (v := 1) hx hb dX3_lend_51 (by decide) ?_
          refine lv_bipush (v := 6) hx hb dX3_lend_52 (by decide) ?_
          refine caR (r := .int (mIn mo 1 6)) (va_runS (As := [.int mo, .int 1, .int 6]) (rest := []) ⟨hx, hb, hml, hown, hts⟩ (c_X3_in l mo 1 6) (va_cwS 3 hts gX3_lend_X3_in rfl rfl rfl (by decide +kernel) ⟨Nat.le_of_ble_eq_true rfl, Nat.le_of_ble_eq_true rfl⟩) ⟨nP_bl, fun _ _ _ => ⟨rfl, trivial⟩⟩ rfl rfl hl.1 rfl (lv_room (Nat.le_of_ble_eq_true rfl)) dX3_lend_54 ⟨Nat.le_of_ble_eq_true rfl, Nat.le_of_ble_eq_true rfl⟩) ?_
          refine lv_if_ne (tgt := 66) hx hb dX3_lend_57 (by decide) (fun c_57 => ?_) (fun c_57 => ?_)
          · refine lv_aload_n hx hb dX3_lend_66 rfl (lv_at hl 0 rfl) ?_
            refine mdG (v := (u2 v 0 0 0)) (val := .int (v 0 6)) hx hb hts hin3 hown hK hP 6 (by decide) (hts (.fieldLink RX3 66 "FundBookModel" "loans" "I") (by decide +kernel)) rfl dX3_lend_67 ?_
            refine lv_topE (z := nI n) (hn) ?_
            refine lv_bipush (v := 24) hx hb dX3_lend_70 (by decide) ?_
            refine lv_icmp_ne (tgt := 81) hx hb dX3_lend_72 (by decide) (fun c_72 => ?_) (fun c_72 => ?_)
            · have hlt : n < 24 := by
                have h9 : ¬ n = 24 := fun q => c_72 (by rw [q]; rfl)
                omega
              obtain ⟨M, hM, hM1, rfl⟩ := in1N (M := 6) c_57 (by decide)
              refine lv_aload_n hx hb dX3_lend_81 rfl (lv_at hl 0 rfl) ?_
              refine mdG (v := (u2 v 0 0 0)) (val := .ref (a 7)) hx hb hts hin3 hown hK hP 7 (by decide) (hts (.fieldLink RX3 17 "FundBookModel" "branch" "[I") (by decide +kernel)) rfl dX3_lend_82 ?_
              refine lv_aload_n hx hb dX3_lend_85 rfl (lv_at hl 0 rfl) ?_
              refine mdG (v := (u2 v 0 0 0)) (val := .int (v 0 6)) hx hb hts hin3 hown hK hP 6 (by decide) (hts (.fieldLink RX3 66 "FundBookModel" "loans" "I") (by decide +kernel)) rfl dX3_lend_86 ?_
              refine lv_topE (z := nI n) (hn) ?_
              refine lv_iload_n hx hb dX3_lend_89 rfl (lv_at hl 1 rfl) ?_
              refine stI (f := (u2 v 0 0 0) 7) (ws1 := mdW y a (u2 (u2 v 0 0 0) 7 n br)) hx hb hK hP hD hS 2 mg_7 n rfl (by omega) (by decide) ms_7 dX3_lend_90 (fun H locs hP hD hS => ?_)
              refine lv_aload_n hx hb dX3_lend_91 rfl (lv_at hl 0 rfl) ?_
              refine mdG (v := (u2 (u2 v 0 0 0) 7 n br)) (val := .ref (a 8)) hx hb hts hin3 hown hK hP 8 (by decide) (hts (.fieldLink RX3 20 "FundBookModel" "product" "[I") (by decide +kernel)) rfl dX3_lend_92 ?_
              refine lv_aload_n hx hb dX3_lend_95 rfl (lv_at hl 0 rfl) ?_
              refine mdG (v := (u2 (u2 v 0 0 0) 7 n br)) (val := .int (v 0 6)) hx hb hts hin3 hown hK hP 6 (by decide) (hts (.fieldLink RX3 66 "FundBookModel" "loans" "I") (by decide +kernel)) rfl dX3_lend_96 ?_
              refine lv_topE (z := nI n) (hn) ?_
              refine lv_iload_n hx hb dX3_lend_99 rfl (lv_at hl 2 rfl) ?_
              refine stI (f := (u2 (u2 v 0 0 0) 7 n br) 8) (ws1 := mdW y a (u2 (u2 (u2 v 0 0 0) 7 n br) 8 n pr)) hx hb hK hP hD hS 3 mg_8 n rfl (by omega) (by decide) ms_8 dX3_lend_100 (fun H locs hP hD hS => ?_)
              refine lv_aload_n hx hb dX3_lend_101 rfl (lv_at hl 0 rfl) ?_
              refine mdG (v := (u2 (u2 (u2 v 0 0 0) 7 n br) 8 n pr)) (val := .ref (a 9)) hx hb hts hin3 hown hK hP 9 (by decide) (hts (.fieldLink RX3 23 "FundBookModel" "customers" "[I") (by decide +kernel)) rfl dX3_lend_102 ?_
              refine lv_aload_n hx hb dX3_lend_105 rfl (lv_at hl 0 rfl) ?_
              refine mdG (v := (u2 (u2 (u2 v 0 0 0) 7 n br) 8 n pr)) (val := .int (v 0 6)) hx hb hts hin3 hown hK hP 6 (by decide) (hts (.fieldLink RX3 66 "FundBookModel" "loans" "I") (by decide +kernel)) rfl dX3_lend_106 ?_
              refine lv_topE (z := nI n) (hn) ?_
              refine lv_iload hx hb dX3_lend_109 (lv_at hl 4 rfl) ?_
              refine stI (f := (u2 (u2 (u2 v 0 0 0) 7 n br) 8 n pr) 9) (ws1 := mdW y a (u2 (u2 (u2 (u2 v 0 0 0) 7 n br) 8 n pr) 9 n rt)) hx hb hK hP hD hS 4 mg_9 n rfl (by omega) (by decide) ms_9 dX3_lend_111 (fun H locs hP hD hS => ?_)
              refine lv_aload_n hx hb dX3_lend_112 rfl (lv_at hl 0 rfl) ?_
              refine mdG (v := (u2 (u2 (u2 (u2 v 0 0 0) 7 n br) 8 n pr) 9 n rt)) (val := .ref (a 10)) hx hb hts hin3 hown hK hP 10 (by decide) (hts (.fieldLink RX3 26 "FundBookModel" "option" "[I") (by decide +kernel)) rfl dX3_lend_113 ?_
              refine lv_aload_n hx hb dX3_lend_116 rfl (lv_at hl 0 rfl) ?_
              refine mdG (v := (u2 (u2 (u2 (u2 v 0 0 0) 7 n br) 8 n pr) 9 n rt)) (val := .int (v 0 6)) hx hb hts hin3 hown hK hP 6 (by decide) (hts (.fieldLink RX3 66 "FundBookModel" "loans" "I") (by decide +kernel)) rfl dX3_lend_117 ?_
              refine lv_topE (z := nI n) (hn) ?_
              refine lv_aload_n hx hb dX3_lend_120 rfl (lv_at hl 0 rfl) ?_
              refine mdG (v := (u2 (u2 (u2 (u2 v 0 0 0) 7 n br) 8 n pr) 9 n rt)) (val := .int (v 0 4)) hx hb hts hin3 hown hK hP 4 (by decide) (hts (.fieldLink RX3 83 "FundBookModel" "optionRate" "I") (by decide +kernel)) rfl dX3_lend_121 ?_
              refine stI (f := (u2 (u2 (u2 (u2 v 0 0 0) 7 n br) 8 n pr) 9 n rt) 10) (ws1 := mdW y a (u2 (u2 (u2 (u2 (u2 v 0 0 0) 7 n br) 8 n pr) 9 n rt) 10 n (v 0 4))) hx hb hK hP hD hS 5 mg_10 n rfl (by omega) (by decide) ms_10 dX3_lend_124 (fun H locs hP hD hS => ?_)
              refine lv_aload_n hx hb dX3_lend_125 rfl (lv_at hl 0 rfl) ?_
              refine mdG (v := (u2 (u2 (u2 (u2 (u2 v 0 0 0) 7 n br) 8 n pr) 9 n rt) 10 n (v 0 4))) (val := .ref (a 11)) hx hb hts hin3 hown hK hP 11 (by decide) (hts (.fieldLink RX3 29 "FundBookModel" "hasOption" "[Z") (by decide +kernel)) rfl dX3_lend_126 ?_
              refine lv_aload_n hx hb dX3_lend_129 rfl (lv_at hl 0 rfl) ?_
              refine mdG (v := (u2 (u2 (u2 (u2 (u2 v 0 0 0) 7 n br) 8 n pr) 9 n rt) 10 n (v 0 4))) (val := .int (v 0 6)) hx hb hts hin3 hown hK hP 6 (by decide) (hts (.fieldLink RX3 66 "FundBookModel" "loans" "I") (by decide +kernel)) rfl dX3_lend_130 ?_
              refine lv_topE (z := nI n) (hn) ?_
              refine lv_iload hx hb dX3_lend_133 (lv_at hl 6 rfl) ?_
              refine stZ (f := (u2 (u2 (u2 (u2 (u2 v 0 0 0) 7 n br) 8 n pr) 9 n rt) 10 n (v 0 4)) 11) (ws1 := mdW y a (u2 (u2 (u2 (u2 (u2 (u2 v 0 0 0) 7 n br) 8 n pr) 9 n rt) 10 n (v 0 4)) 11 n op)) hx hb hK hP hD hS 6 mg_11 n rfl (by omega) (by decide) hop ms_11 dX3_lend_135 (fun H locs hP hD hS => ?_)
              refine lv_aload_n hx hb dX3_lend_136 rfl (lv_at hl 0 rfl) ?_
              refine mdG (v := (u2 (u2 (u2 (u2 (u2 (u2 v 0 0 0) 7 n br) 8 n pr) 9 n rt) 10 n (v 0 4)) 11 n op)) (val := .ref (a 12)) hx hb hts hin3 hown hK hP 12 (by decide) (hts (.fieldLink RX3 33 "FundBookModel" "born" "[I") (by decide +kernel)) rfl dX3_lend_137 ?_
              refine lv_aload_n hx hb dX3_lend_140 rfl (lv_at hl 0 rfl) ?_
              refine mdG (v := (u2 (u2 (u2 (u2 (u2 (u2 v 0 0 0) 7 n br) 8 n pr) 9 n rt) 10 n (v 0 4)) 11 n op)) (val := .int (v 0 6)) hx hb hts hin3 hown hK hP 6 (by decide) (hts (.fieldLink RX3 66 "FundBookModel" "loans" "I") (by decide +kernel)) rfl dX3_lend_141 ?_
              refine lv_topE (z := nI n) (hn) ?_
              refine lv_aload_n hx hb dX3_lend_144 rfl (lv_at hl 0 rfl) ?_
              refine mdG (v := (u2 (u2 (u2 (u2 (u2 (u2 v 0 0 0) 7 n br) 8 n pr) 9 n rt) 10 n (v 0 4)) 11 n op)) (val := .int (v 0 1)) hx hb hts hin3 hown hK hP 1 (by decide) (hts (.fieldLink RX3 73 "FundBookModel" "now" "I") (by decide +kernel)) rfl dX3_lend_145 ?_
              refine stI (f := (u2 (u2 (u2 (u2 (u2 (u2 v 0 0 0) 7 n br) 8 n pr) 9 n rt) 10 n (v 0 4)) 11 n op) 12) (ws1 := mdW y a (u2 (u2 (u2 (u2 (u2 (u2 (u2 v 0 0 0) 7 n br) 8 n pr) 9 n rt) 10 n (v 0 4)) 11 n op) 12 n (v 0 1))) hx hb hK hP hD hS 7 mg_12 n rfl (by omega) (by decide) ms_12 dX3_lend_148 (fun H locs hP hD hS => ?_)
              refine lv_iconst (v := 0) hx hb dX3_lend_149 (by decide) ?_
              refine lv_istore (lv' := [(7, .int 0), (0, .ref (a 0)), (1, .int br), (2, .int pr), (3, .int am), (4, .int rt), (5, .int (nI M)), (6, .int op)]) hx hb dX3_lend_150 hl (by decide) rfl (fun ls hl => ?_)
              refine loopM (LV := fun k => [(0, .ref (a 0)), (1, .int br), (2, .int pr), (3, .int am), (4, .int rt), (5, .int (nI M)), (6, .int op), (7, .int (nI k))]) (WS := fun k => mdW y a (mLp (mLw v n br pr rt op) n am M k)) M hP hD hS (lv_sub hl [1, 2, 3, 4, 5, 6, 7, 0] rfl) (fun k H locs ls hk_k hP hD hS hl ih_k => ?_) (fun H locs ls hP hD hS hl => ?_)
              · have hl : lv_has ls 8 [(0, .ref (a 0)), (1, .int br), (2, .int pr), (3, .int am), (4, .int rt), (5, .int (nI M)), (6, .int op), (7, .int (nI k))] := hl
                have hP : va_P G vwCl (mdW y a (mLp (mLw v n br pr rt op) n am M k)) H := hP
                have hD : va_D A (mdW y a (mLp (mLw v n br pr rt op) n am M k)) := hD
                refine lv_iload hx hb dX3_lend_152 (lv_at hl 7 rfl) ?_
                refine lv_iload hx hb dX3_lend_154 (lv_at hl 5 rfl) ?_
                refine lv_icmp_ge (tgt := 231) hx hb dX3_lend_156 (by decide) (fun c_156 => absurd c_156 (nI_ge hk_k (by omega))) (fun c_156 => ?_)
                refine lv_aload_n hx hb dX3_lend_159 rfl (lv_at hl 0 rfl) ?_
                refine mdG (v := (mLp (mLw v n br pr rt op) n am M k)) (val := .ref (a 13)) hx hb hts hin3 hown hK hP 13 (by decide) (hts (.fieldLink RX3 36 "FundBookModel" "part" "[I") (by decide +kernel)) rfl dX3_lend_160 ?_
                refine lv_bipush (v := 6) hx hb dX3_lend_163 (by decide) ?_
                refine lv_aload_n hx hb dX3_lend_165 rfl (lv_at hl 0 rfl) ?_
                refine mdG (v := (mLp (mLw v n br pr rt op) n am M k)) (val := .int ((mLp (mLw v n br pr rt op) n am M k) 0 6)) hx hb hts hin3 hown hK hP 6 (by decide) (hts (.fieldLink RX3 66 "FundBookModel" "loans" "I") (by decide +kernel)) rfl dX3_lend_166 ?_
                refine lv_topE (z := nI n) (by rw [mLp_o (by decide) (by decide)]; exact hn) ?_
                refine lv_imul hx hb dX3_lend_169 ?_
                refine lv_iload hx hb dX3_lend_170 (lv_at hl 7 rfl) ?_
                refine lv_iadd hx hb dX3_lend_172 ?_
                refine lv_topE (z := nI (6 * n + k)) (ix6) ?_
                refine lv_iload hx hb dX3_lend_173 (lv_at hl 7 rfl) ?_
                refine lv_iload hx hb dX3_lend_175 (lv_at hl 5 rfl) ?_
                refine lv_iconst (v := 1) hx hb dX3_lend_177 (by decide) ?_
                refine lv_isub hx hb dX3_lend_178 ?_
                refine lv_icmp_ge (tgt := 189) hx hb dX3_lend_179 (by decide) (fun c_179 => ?_) (fun c_179 => ?_)
                · refine lv_iload_n hx hb dX3_lend_189 rfl (lv_at hl 3 rfl) ?_
                  refine lv_iload_n hx hb dX3_lend_190 rfl (lv_at hl 3 rfl) ?_
                  refine lv_iload hx hb dX3_lend_191 (lv_at hl 5 rfl) ?_
                  refine lv_idiv hx hb dX3_lend_193 (nI_ne0 (by omega) (by omega)) ?_
                  refine lv_iload hx hb dX3_lend_194 (lv_at hl 5 rfl) ?_
                  refine lv_iconst (v := 1) hx hb dX3_lend_196 (by decide) ?_
                  refine lv_isub hx hb dX3_lend_197 ?_
                  refine lv_imul hx hb dX3_lend_198 ?_
                  refine lv_isub hx hb dX3_lend_199 ?_
                  refine lv_topE (z := mPt am M k) (by unfold mPt; exact (if_pos c_179).symm) ?_
                  refine stI (f := (mLp (mLw v n br pr rt op) n am M k) 13) (ws1 := mdW y a (u2 (mLp (mLw v n br pr rt op) n am M k) 13 (6 * n + k) (mPt am M k))) hx hb hK hP hD hS 8 mg_13 (6 * n + k) rfl (by omega) (by decide) ms_13 dX3_lend_200 (fun H locs hP hD hS => ?_)
                  refine lv_aload_n hx hb dX3_lend_201 rfl (lv_at hl 0 rfl) ?_
                  refine mdG (v := (u2 (mLp (mLw v n br pr rt op) n am M k) 13 (6 * n + k) (mPt am M k))) (val := .ref (a 14)) hx hb hts hin3 hown hK hP 14 (by decide) (hts (.fieldLink RX3 39 "FundBookModel" "funded" "[I") (by decide +kernel)) rfl dX3_lend_202 ?_
                  refine lv_bipush (v := 6) hx hb dX3_lend_205 (by decide) ?_
                  refine lv_aload_n hx hb dX3_lend_207 rfl (lv_at hl 0 rfl) ?_
                  refine mdG (v := (u2 (mLp (mLw v n br pr rt op) n am M k) 13 (6 * n + k) (mPt am M k))) (val := .int ((mLp (mLw v n br pr rt op) n am M k) 0 6)) hx hb hts hin3 hown hK hP 6 (by decide) (hts (.fieldLink RX3 66 "FundBookModel" "loans" "I") (by decide +kernel)) rfl dX3_lend_208 ?_
                  refine lv_topE (z := nI n) (by rw [mLp_o (by decide) (by decide)]; exact hn) ?_
                  refine lv_imul hx hb dX3_lend_211 ?_
                  refine lv_iload hx hb dX3_lend_212 (lv_at hl 7 rfl) ?_
                  refine lv_iadd hx hb dX3_lend_214 ?_
                  refine lv_topE (z := nI (6 * n + k)) (ix6) ?_
                  refine lv_aload_n hx hb dX3_lend_215 rfl (lv_at hl 0 rfl) ?_
                  refine mdG (v := (u2 (mLp (mLw v n br pr rt op) n am M k) 13 (6 * n + k) (mPt am M k))) (val := .ref (a 2)) hx hb hts hin3 hown hK hP 2 (by decide) (hts (.fieldLink RX3 7 "FundBookModel" "curve" "[I") (by decide +kernel)) rfl dX3_lend_216 ?_
                  refine lv_iload hx hb dX3_lend_219 (lv_at hl 7 rfl) ?_
                  refine lv_iconst (v := 1) hx hb dX3_lend_221 (by decide) ?_
                  refine lv_iadd hx hb dX3_lend_222 ?_
                  refine lv_topE (z := nI (k + 1)) (nI_1 k) ?_
                  refine ldI (f := ((mLp (mLw v n br pr rt op) n am M k) 2)) hx hb hK hP 1 rfl (k + 1) rfl (by omega) (by decide) dX3_lend_223 ?_
                  refine lv_topE (z := (mLw v n br pr rt op) 2 (k + 1)) (by rw [mLp_o (by decide) (by decide)]) ?_
                  refine stI (f := (u2 (mLp (mLw v n br pr rt op) n am M k) 13 (6 * n + k) (mPt am M k)) 14) (ws1 := mdW y a (u2 (u2 (mLp (mLw v n br pr rt op) n am M k) 13 (6 * n + k) (mPt am M k)) 14 (6 * n + k) ((mLw v n br pr rt op) 2 (k + 1)))) hx hb hK hP hD hS 9 mg_14 (6 * n + k) rfl (by omega) (by decide) ms_14 dX3_lend_224 (fun H locs hP hD hS => ?_)
                  refine lv_iinc (v := (nI (k + 1))) (lv' := [(7, .int (nI (k + 1))), (0, .ref (a 0)), (1, .int br), (2, .int pr), (3, .int am), (4, .int rt), (5, .int (nI M)), (6, .int op)]) hx hb dX3_lend_225 hl (k := 7) rfl iinc1 (by decide) rfl (fun ls hl => ?_)
                  refine lv_goto (tgt := 152) hx hb dX3_lend_228 (by decide) ?_
                  exact ih_k _ _ ls hP hD hS (lv_sub hl [1, 2, 3, 4, 5, 6, 7, 0] rfl)
                · refine lv_iload_n hx hb dX3_lend_182 rfl (lv_at hl 3 rfl) ?_
                  refine lv_iload hx hb dX3_lend_183 (lv_at hl 5 rfl) ?_
                  refine lv_idiv hx hb dX3_lend_185 (nI_ne0 (by omega) (by omega)) ?_
                  refine lv_goto (tgt := 200) hx hb dX3_lend_186 (by decide) ?_
                  refine lv_topE (z := mPt am M k) (by unfold mPt; exact (if_neg c_179).symm) ?_
                  refine stI (f := (mLp (mLw v n br pr rt op) n am M k) 13) (ws1 := mdW y a (u2 (mLp (mLw v n br pr rt op) n am M k) 13 (6 * n + k) (mPt am M k))) hx hb hK hP hD hS 8 mg_13 (6 * n + k) rfl (by omega) (by decide) ms_13 dX3_lend_200 (fun H locs hP hD hS => ?_)
                  refine lv_aload_n hx hb dX3_lend_201 rfl (lv_at hl 0 rfl) ?_
                  refine mdG (v := (u2 (mLp (mLw v n br pr rt op) n am M k) 13 (6 * n + k) (mPt am M k))) (val := .ref (a 14)) hx hb hts hin3 hown hK hP 14 (by decide) (hts (.fieldLink RX3 39 "FundBookModel" "funded" "[I") (by decide +kernel)) rfl dX3_lend_202 ?_
                  refine lv_bipush (v := 6) hx hb dX3_lend_205 (by decide) ?_
                  refine lv_aload_n hx hb dX3_lend_207 rfl (lv_at hl 0 rfl) ?_
                  refine mdG (v := (u2 (mLp (mLw v n br pr rt op) n am M k) 13 (6 * n + k) (mPt am M k))) (val := .int ((mLp (mLw v n br pr rt op) n am M k) 0 6)) hx hb hts hin3 hown hK hP 6 (by decide) (hts (.fieldLink RX3 66 "FundBookModel" "loans" "I") (by decide +kernel)) rfl dX3_lend_208 ?_
                  refine lv_topE (z := nI n) (by rw [mLp_o (by decide) (by decide)]; exact hn) ?_
                  refine lv_imul hx hb dX3_lend_211 ?_
                  refine lv_iload hx hb dX3_lend_212 (lv_at hl 7 rfl) ?_
                  refine lv_iadd hx hb dX3_lend_214 ?_
                  refine lv_topE (z := nI (6 * n + k)) (ix6) ?_
                  refine lv_aload_n hx hb dX3_lend_215 rfl (lv_at hl 0 rfl) ?_
                  refine mdG (v := (u2 (mLp (mLw v n br pr rt op) n am M k) 13 (6 * n + k) (mPt am M k))) (val := .ref (a 2)) hx hb hts hin3 hown hK hP 2 (by decide) (hts (.fieldLink RX3 7 "FundBookModel" "curve" "[I") (by decide +kernel)) rfl dX3_lend_216 ?_
                  refine lv_iload hx hb dX3_lend_219 (lv_at hl 7 rfl) ?_
                  refine lv_iconst (v := 1) hx hb dX3_lend_221 (by decide) ?_
                  refine lv_iadd hx hb dX3_lend_222 ?_
                  refine lv_topE (z := nI (k + 1)) (nI_1 k) ?_
                  refine ldI (f := ((mLp (mLw v n br pr rt op) n am M k) 2)) hx hb hK hP 1 rfl (k + 1) rfl (by omega) (by decide) dX3_lend_223 ?_
                  refine lv_topE (z := (mLw v n br pr rt op) 2 (k + 1)) (by rw [mLp_o (by decide) (by decide)]) ?_
                  refine stI (f := (u2 (mLp (mLw v n br pr rt op) n am M k) 13 (6 * n + k) (mPt am M k)) 14) (ws1 := mdW y a (u2 (u2 (mLp (mLw v n br pr rt op) n am M k) 13 (6 * n + k) (mPt am M k)) 14 (6 * n + k) ((mLw v n br pr rt op) 2 (k + 1)))) hx hb hK hP hD hS 9 mg_14 (6 * n + k) rfl (by omega) (by decide) ms_14 dX3_lend_224 (fun H locs hP hD hS => ?_)
                  refine lv_iinc (v := (nI (k + 1))) (lv' := [(7, .int (nI (k + 1))), (0, .ref (a 0)), (1, .int br), (2, .int pr), (3, .int am), (4, .int rt), (5, .int (nI M)), (6, .int op)]) hx hb dX3_lend_225 hl (k := 7) rfl iinc1 (by decide) rfl (fun ls hl => ?_)
                  refine lv_goto (tgt := 152) hx hb dX3_lend_228 (by decide) ?_
                  exact ih_k _ _ ls hP hD hS (lv_sub hl [1, 2, 3, 4, 5, 6, 7, 0] rfl)
              · have hl : lv_has ls 8 [(0, .ref (a 0)), (1, .int br), (2, .int pr), (3, .int am), (4, .int rt), (5, .int (nI M)), (6, .int op), (7, .int (nI M))] := hl
                have hP : va_P G vwCl (mdW y a (mLp (mLw v n br pr rt op) n am M M)) H := hP
                have hD : va_D A (mdW y a (mLp (mLw v n br pr rt op) n am M M)) := hD
                refine lv_iload hx hb dX3_lend_152 (lv_at hl 7 rfl) ?_
                refine lv_iload hx hb dX3_lend_154 (lv_at hl 5 rfl) ?_
                refine lv_icmp_ge (tgt := 231) hx hb dX3_lend_156 (by decide) (fun c_156 => ?_) (fun c_156 => absurd (nI_le (Nat.le_refl M) (by omega)) c_156)
                refine lv_aload_n hx hb dX3_lend_231 rfl (lv_at hl 0 rfl) ?_
                refine lv_dup hx hb dX3_lend_232 rfl ?_
                refine mdG (v := (mLp (mLw v n br pr rt op) n am M M)) (val := .int ((mLp (mLw v n br pr rt op) n am M M) 0 6)) hx hb hts hin3 hown hK hP 6 (by decide) (hts (.fieldLink RX3 66 "FundBookModel" "loans" "I") (by decide +kernel)) rfl dX3_lend_233 ?_
                refine lv_topE (z := nI n) (by rw [mLp_o (by decide) (by decide)]; exact hn) ?_
                refine lv_iconst (v := 1) hx hb dX3_lend_236 (by decide) ?_
                refine lv_iadd hx hb dX3_lend_237 ?_
                refine lv_topE (z := nI (n + 1)) (nI_1 n) ?_
                refine mdS (v := (mLp (mLw v n br pr rt op) n am M M)) (x := nI (n + 1)) hx hb hts hin3 hown hK hP hD hS 6 (by decide) (hts (.fieldLink RX3 66 "FundBookModel" "loans" "I") (by decide +kernel)) dX3_lend_238 (fun H locs hP hD hS => ?_)
                refine lv_aload_n hx hb dX3_lend_241 rfl (lv_at hl 0 rfl) ?_
                refine mdG (v := (u2 (mLp (mLw v n br pr rt op) n am M M) 0 6 (nI (n + 1)))) (val := .int (nI (n + 1))) hx hb hts hin3 hown hK hP 6 (by decide) (hts (.fieldLink RX3 66 "FundBookModel" "loans" "I") (by decide +kernel)) rfl dX3_lend_242 ?_
                refine lv_iconst (v := 1) hx hb dX3_lend_245 (by decide) ?_
                refine lv_isub hx hb dX3_lend_246 ?_
                refine lv_topE (z := nI n) (nI_pred n) ?_
                have ev : mLend v n br pr am rt (nI M) op = ((u2 (mLp (mLw v n br pr rt op) n am M M) 0 6 (nI (n + 1))), nI n) := by unfold mLend; rw [cnI (by omega)]; exact (if_neg (fun q => q.elim c_9 c_18)).trans ((if_neg (fun q => q.elim c_34 (fun q => q.elim c_46 c_57))).trans ((if_neg (show ¬ n = 24 by omega))))
                exact W.iret (v := nI n) hx hb hr (fun t ht hW => ⟨⟨(), by rw [ev], trivial, by rw [ht, ev]; exact hP, by rw [ev]; exact hD⟩, hS.F ht⟩) hS.2.2 dX3_lend_247
            · refine lv_aload_n hx hb dX3_lend_75 rfl (lv_at hl 0 rfl) ?_
              refine lv_iconst (v := 3) hx hb dX3_lend_76 (by decide) ?_
              refine caM (va_runV (As := [.int 3]) (rest := []) ⟨hx, hb, hml, hown, hts⟩ (c_X3_fails l G y a (u2 v 0 0 0) H.size 3) (cwV 1 hts gX3_lend_X3_fails rfl rfl rfl (by decide +kernel) ⟨Nat.le_of_ble_eq_true rfl, Nat.le_of_ble_eq_true rfl⟩) ⟨mP_bl, va_recv hK.1 hP (ci := 3) (q0 := 0) rfl rfl, fun U hU hW => ⟨rfl, by rw [hU], by rw [hU]; exact hP, Kb.moved hW hK, hD.weaken (fun _ _ _ _ => trivial)⟩⟩ rfl rfl hl.1 rfl (lv_room (Nat.le_of_ble_eq_true rfl)) dX3_lend_77 ⟨Nat.le_of_ble_eq_true rfl, Nat.le_of_ble_eq_true rfl⟩) hS (freeW hD hS hA) (freeW hD hS hA) (fun _ H locs _ hP hD _ _ hS => ?_)
              refine W.eq (g2 := F0 m 80 ls [.int 0]) rfl ?_
              have hP : va_P G vwCl (mdW y a (u2 (u2 v 0 0 0) 0 0 3)) H := hP
              have hD : va_D A (mdW y a (u2 (u2 v 0 0 0) 0 0 3)) := hD
              have ev : mLend v n br pr am rt mo op = ((u2 (u2 v 0 0 0) 0 0 3), 0) := by unfold mLend; exact (if_neg (fun q => q.elim c_9 c_18)).trans ((if_neg (fun q => q.elim c_34 (fun q => q.elim c_46 c_57))).trans ((if_pos ((nI_eq (by omega) (by decide)).mp c_72))))
              exact W.iret (v := 0) hx hb hr (fun t ht hW => ⟨⟨(), by rw [ev], trivial, by rw [ht, ev]; exact hP, by rw [ev]; exact hD⟩, hS.F ht⟩) hS.2.2 dX3_lend_80
          · refine lv_aload_n hx hb dX3_lend_60 rfl (lv_at hl 0 rfl) ?_
            refine lv_iconst (v := 2) hx hb dX3_lend_61 (by decide) ?_
            refine caM (va_runV (As := [.int 2]) (rest := []) ⟨hx, hb, hml, hown, hts⟩ (c_X3_fails l G y a (u2 v 0 0 0) H.size 2) (cwV 1 hts gX3_lend_X3_fails rfl rfl rfl (by decide +kernel) ⟨Nat.le_of_ble_eq_true rfl, Nat.le_of_ble_eq_true rfl⟩) ⟨mP_bl, va_recv hK.1 hP (ci := 3) (q0 := 0) rfl rfl, fun U hU hW => ⟨rfl, by rw [hU], by rw [hU]; exact hP, Kb.moved hW hK, hD.weaken (fun _ _ _ _ => trivial)⟩⟩ rfl rfl hl.1 rfl (lv_room (Nat.le_of_ble_eq_true rfl)) dX3_lend_62 ⟨Nat.le_of_ble_eq_true rfl, Nat.le_of_ble_eq_true rfl⟩) hS (freeW hD hS hA) (freeW hD hS hA) (fun _ H locs _ hP hD _ _ hS => ?_)
            refine W.eq (g2 := F0 m 65 ls [.int 0]) rfl ?_
            have hP : va_P G vwCl (mdW y a (u2 (u2 v 0 0 0) 0 0 2)) H := hP
            have hD : va_D A (mdW y a (u2 (u2 v 0 0 0) 0 0 2)) := hD
            have ev : mLend v n br pr am rt mo op = ((u2 (u2 v 0 0 0) 0 0 2), 0) := by unfold mLend; exact (if_neg (fun q => q.elim c_9 c_18)).trans ((if_pos (Or.inr (Or.inr c_57))))
            exact W.iret (v := 0) hx hb hr (fun t ht hW => ⟨⟨(), by rw [ev], trivial, by rw [ht, ev]; exact hP, by rw [ev]; exact hD⟩, hS.F ht⟩) hS.2.2 dX3_lend_65
    · refine lv_aload_n hx hb dX3_lend_21 rfl (lv_at hl 0 rfl) ?_
      refine lv_iconst (v := 1) hx hb dX3_lend_22 (by decide) ?_
      refine caM (va_runV (As := [.int 1]) (rest := []) ⟨hx, hb, hml, hown, hts⟩ (c_X3_fails l G y a (u2 v 0 0 0) H.size 1) (cwV 1 hts gX3_lend_X3_fails rfl rfl rfl (by decide +kernel) ⟨Nat.le_of_ble_eq_true rfl, Nat.le_of_ble_eq_true rfl⟩) ⟨mP_bl, va_recv hK.1 hP (ci := 3) (q0 := 0) rfl rfl, fun U hU hW => ⟨rfl, by rw [hU], by rw [hU]; exact hP, Kb.moved hW hK, hD.weaken (fun _ _ _ _ => trivial)⟩⟩ rfl rfl hl.1 rfl (lv_room (Nat.le_of_ble_eq_true rfl)) dX3_lend_23 ⟨Nat.le_of_ble_eq_true rfl, Nat.le_of_ble_eq_true rfl⟩) hS (freeW hD hS hA) (freeW hD hS hA) (fun _ H locs _ hP hD _ _ hS => ?_)
      refine W.eq (g2 := F0 m 26 ls [.int 0]) rfl ?_
      have hP : va_P G vwCl (mdW y a (u2 (u2 v 0 0 0) 0 0 1)) H := hP
      have hD : va_D A (mdW y a (u2 (u2 v 0 0 0) 0 0 1)) := hD
      have ev : mLend v n br pr am rt mo op = ((u2 (u2 v 0 0 0) 0 0 1), 0) := by unfold mLend; exact (if_pos (Or.inr c_18))
      exact W.iret (v := 0) hx hb hr (fun t ht hW => ⟨⟨(), by rw [ev], trivial, by rw [ht, ev]; exact hP, by rw [ev]; exact hD⟩, hS.F ht⟩) hS.2.2 dX3_lend_26
set_option maxHeartbeats 4000000 in
set_option maxRecDepth 100000 in
theorem c_X3_repay (l : Launch) (G : va_G) (y : Nat → ClassId) (a : Nat → Nat) (v : MS) (sz : Nat) (x : Int32) (n : Nat) (hn : v 0 6 = nI n) (hn24 : n ≤ 24) : Met l yX3_repay wsX3_repay ({ frames := 2, cells := 0, slots := 0, locals := 43 }) (mP G y [.ref (a 0), .int x] (mdW y a v) sz) (mQ G (fun _ : Unit => some (.int (mRepay v n x).2)) (fun _ => True) (fun _ => mdW y a (mRepay v n x).1) (va_A (mdW y a v) sz)) 0 0 (va_A (mdW y a v) sz) := by
  refine Met.ofW (cc := cX3_repay) (maxL := 4) (ret := (some .int)) (by decide) rfl ?_
  intro p e s m args below meth c s₁ B hml hv
  obtain ⟨rfl, hsz, hP, hK, hD0⟩ := hv
  have hx := B.exec
  have hb := B.bytes
  have hr := B.returns
  have hts := atoms_spec (ws := wsX3_repay) B.pre
  have hown : s.vm.findClass RX3 = some m.cls := findClass_of_methodNamed B.named
  have hlocks := B.notSynchronized
  subst hsz
  have hD := hD0.self (sz := s.heap.size)
  generalize hAe : va_A (mdW y a v) s.heap.size = A at hD ⊢
  have hA : ∀ q : Nat, s.heap.size ≤ q → A q := fun q h => by rw [← hAe]; exact Or.inr h
  have hS : va_S A s.heap s.heap [] := va_S.rf
  have hP : va_P G vwCl (mdW y a v) s.heap := hP
  have hl := lv_entry ([.ref (a 0), .int x]) (n := 4) (Nat.le_of_ble_eq_true rfl)
  rw [lg_entry_eq]
  generalize (lg_sl ([.ref (a 0), .int x]) ++ List.replicate (4 - (lg_sl ([.ref (a 0), .int x])).length) Slot.unset).toArray = ls at hl ⊢
  have hin3 : ∀ w ∈ wsX30, w ∈ wsX3_repay := by decide +kernel
  have hl : lv_has ls 4 [(0, .ref (a 0)), (1, .int x)] := hl
  refine lv_aload_n hx hb dX3_repay_0 rfl (lv_at hl 0 rfl) ?_
  refine lv_iconst (v := 0) hx hb dX3_repay_1 (by decide) ?_
  refine mdS (v := v) (x := 0) hx hb hts hin3 hown hK hP hD hS 0 (by decide) (hts (.fieldLink RX3 63 "FundBookModel" "thrown" "I") (by decide +kernel)) dX3_repay_2 (fun H locs hP hD hS => ?_)
  refine lv_aload_n hx hb dX3_repay_5 rfl (lv_at hl 0 rfl) ?_
  refine lv_iload_n hx hb dX3_repay_6 rfl (lv_at hl 1 rfl) ?_
  refine caR (r := .int (mIn x 0 (v 0 6 - 1))) (va_runV (As := [.int x]) (rest := []) ⟨hx, hb, hml, hown, hts⟩ (c_X3_isLoan l G y a (u2 v 0 0 0) x) (cwV 1 hts gX3_repay_X3_isLoan rfl rfl rfl (by decide +kernel) ⟨Nat.le_of_ble_eq_true rfl, Nat.le_of_ble_eq_true rfl⟩) ⟨rP_bl, va_recv hK.1 hP (ci := 3) (q0 := 0) rfl rfl, fun U hU hW => ⟨rfl, by rw [hU]; exact hP, Kb.moved hW hK⟩⟩ rfl rfl hl.1 rfl (lv_room (Nat.le_of_ble_eq_true rfl)) dX3_repay_7 ⟨Nat.le_of_ble_eq_true rfl, Nat.le_of_ble_eq_true rfl⟩) ?_
  refine lv_topE (z := mIn x 0 (nI n - 1)) (by rw [hn]) ?_
  refine lv_if_ne (tgt := 19) hx hb dX3_repay_10 (by decide) (fun c_10 => ?_) (fun c_10 => ?_)
  · obtain ⟨i, hi, rfl⟩ := inL c_10 (by omega)
    refine lv_aload_n hx hb dX3_repay_19 rfl (lv_at hl 0 rfl) ?_
    refine lv_iload_n hx hb dX3_repay_20 rfl (lv_at hl 1 rfl) ?_
    refine caR (r := .int (mLeft v i)) (va_runV (As := [.int (nI i)]) (rest := []) ⟨hx, hb, hml, hown, hts⟩ (c_X3_leftOf l G y a (u2 v 0 0 0) i (by omega)) (cwV 1 hts gX3_repay_X3_leftOf rfl rfl rfl (by decide +kernel) ⟨Nat.le_of_ble_eq_true rfl, Nat.le_of_ble_eq_true rfl⟩) ⟨rP_bl, va_recv hK.1 hP (ci := 3) (q0 := 0) rfl rfl, fun U hU hW => ⟨rfl, by rw [hU]; exact hP, Kb.moved hW hK⟩⟩ rfl rfl hl.1 rfl (lv_room (Nat.le_of_ble_eq_true rfl)) dX3_repay_21 ⟨Nat.le_of_ble_eq_true rfl, Nat.le_of_ble_eq_true rfl⟩) ?_
    refine lv_istore_n (lv' := [(2, .int (mLeft v i)), (0, .ref (a 0)), (1, .int (nI i))]) hx hb dX3_repay_24 rfl hl (by decide) rfl (fun ls hl => ?_)
    refine lv_aload_n hx hb dX3_repay_25 rfl (lv_at hl 1 rfl) ?_
    refine mdG (v := (u2 v 0 0 0)) (val := .ref (a 11)) hx hb hts hin3 hown hK hP 11 (by decide) (hts (.fieldLink RX3 29 "FundBookModel" "hasOption" "[Z") (by decide +kernel)) rfl dX3_repay_26 ?_
    refine lv_iload_n hx hb dX3_repay_29 rfl (lv_at hl 2 rfl) ?_
    refine ldZ (f := v 11) hx hb hK hP 6 rfl i rfl (by omega) (by decide) dX3_repay_30 ?_
    refine lv_if_eq (tgt := 38) hx hb dX3_repay_31 (by decide) (fun c_31 => ?_) (fun c_31 => ?_)
    · refine lv_aload_n hx hb dX3_repay_38 rfl (lv_at hl 1 rfl) ?_
      refine lv_iconst (v := 2) hx hb dX3_repay_39 (by decide) ?_
      refine caM (va_runV (As := [.int 2]) (rest := []) ⟨hx, hb, hml, hown, hts⟩ (c_X3_fails l G y a (u2 v 0 0 0) H.size 2) (cwV 1 hts gX3_repay_X3_fails rfl rfl rfl (by decide +kernel) ⟨Nat.le_of_ble_eq_true rfl, Nat.le_of_ble_eq_true rfl⟩) ⟨mP_bl, va_recv hK.1 hP (ci := 3) (q0 := 0) rfl rfl, fun U hU hW => ⟨rfl, by rw [hU], by rw [hU]; exact hP, Kb.moved hW hK, hD.weaken (fun _ _ _ _ => trivial)⟩⟩ rfl rfl hl.1 rfl (lv_room (Nat.le_of_ble_eq_true rfl)) dX3_repay_40 ⟨Nat.le_of_ble_eq_true rfl, Nat.le_of_ble_eq_true rfl⟩) hS (freeW hD hS hA) (freeW hD hS hA) (fun _ H locs _ hP hD _ _ hS => ?_)
      refine W.eq (g2 := F0 m 43 ls [.int 0]) rfl ?_
      have hP : va_P G vwCl (mdW y a (u2 (u2 v 0 0 0) 0 0 2)) H := hP
      have hD : va_D A (mdW y a (u2 (u2 v 0 0 0) 0 0 2)) := hD
      have ev : mRepay v n (nI i) = ((u2 (u2 v 0 0 0) 0 0 2), 0) := by unfold mRepay; rw [cnI (by omega)]; exact (if_neg c_10).trans ((if_pos (Or.inl c_31)))
      exact W.iret (v := 0) hx hb hr (fun t ht hW => ⟨⟨(), by rw [ev], trivial, by rw [ht, ev]; exact hP, by rw [ev]; exact hD⟩, hS.F ht⟩) hS.2.2 dX3_repay_43
    · refine lv_iload_n hx hb dX3_repay_34 rfl (lv_at hl 0 rfl) ?_
      refine lv_if_ne (tgt := 44) hx hb dX3_repay_35 (by decide) (fun c_35 => ?_) (fun c_35 => ?_)
      · refine lv_iconst (v := 0) hx hb dX3_repay_44 (by decide) ?_
        refine lv_istore_n (lv' := [(3, .int 0), (2, .int (mLeft v i)), (0, .ref (a 0)), (1, .int (nI i))]) hx hb dX3_repay_45 rfl hl (by decide) rfl (fun ls hl => ?_)
        refine loopM (LV := fun k => [(0, .ref (a 0)), (1, .int (nI i)), (2, .int (mLeft v i)), (3, .int (nI k))]) (WS := fun k => mdW y a (mRz (mT v 0) i k)) 6 hP hD hS (lv_sub hl [2, 3, 1, 0] rfl) (fun k H locs ls hk_k hP hD hS hl ih_k => ?_) (fun H locs ls hP hD hS hl => ?_)
        · have hl : lv_has ls 4 [(0, .ref (a 0)), (1, .int (nI i)), (2, .int (mLeft v i)), (3, .int (nI k))] := hl
          have hP : va_P G vwCl (mdW y a (mRz (mT v 0) i k)) H := hP
          have hD : va_D A (mdW y a (mRz (mT v 0) i k)) := hD
          refine lv_iload_n hx hb dX3_repay_46 rfl (lv_at hl 3 rfl) ?_
          refine lv_bipush (v := 6) hx hb dX3_repay_47 (by decide) ?_
          refine lv_icmp_ge (tgt := 70) hx hb dX3_repay_49 (by decide) (fun c_49 => absurd c_49 (nI_ge hk_k (by decide))) (fun c_49 => ?_)
          refine lv_aload_n hx hb dX3_repay_52 rfl (lv_at hl 0 rfl) ?_
          refine mdG (v := (mRz (mT v 0) i k)) (val := .ref (a 13)) hx hb hts hin3 hown hK hP 13 (by decide) (hts (.fieldLink RX3 36 "FundBookModel" "part" "[I") (by decide +kernel)) rfl dX3_repay_53 ?_
          refine lv_bipush (v := 6) hx hb dX3_repay_56 (by decide) ?_
          refine lv_iload_n hx hb dX3_repay_58 rfl (lv_at hl 1 rfl) ?_
          refine lv_imul hx hb dX3_repay_59 ?_
          refine lv_iload_n hx hb dX3_repay_60 rfl (lv_at hl 3 rfl) ?_
          refine lv_iadd hx hb dX3_repay_61 ?_
          refine lv_topE (z := nI (6 * i + k)) (ix6) ?_
          refine lv_iconst (v := 0) hx hb dX3_repay_62 (by decide) ?_
          refine stI (f := (mRz (mT v 0) i k) 13) (ws1 := mdW y a (u2 (mRz (mT v 0) i k) 13 (6 * i + k) 0)) hx hb hK hP hD hS 8 mg_13 (6 * i + k) rfl (by omega) (by decide) ms_13 dX3_repay_63 (fun H locs hP hD hS => ?_)
          refine lv_iinc (v := (nI (k + 1))) (lv' := [(3, .int (nI (k + 1))), (0, .ref (a 0)), (1, .int (nI i)), (2, .int (mLeft v i))]) hx hb dX3_repay_64 hl (k := 3) rfl iinc1 (by decide) rfl (fun ls hl => ?_)
          refine lv_goto (tgt := 46) hx hb dX3_repay_67 (by decide) ?_
          exact ih_k _ _ ls hP hD hS (lv_sub hl [1, 2, 3, 0] rfl)
        · have hl : lv_has ls 4 [(0, .ref (a 0)), (1, .int (nI i)), (2, .int (mLeft v i)), (3, .int (nI 6))] := hl
          have hP : va_P G vwCl (mdW y a (mRz (mT v 0) i 6)) H := hP
          have hD : va_D A (mdW y a (mRz (mT v 0) i 6)) := hD
          refine lv_iload_n hx hb dX3_repay_46 rfl (lv_at hl 3 rfl) ?_
          refine lv_bipush (v := 6) hx hb dX3_repay_47 (by decide) ?_
          refine lv_icmp_ge (tgt := 70) hx hb dX3_repay_49 (by decide) (fun c_49 => ?_) (fun c_49 => absurd (nI_le (Nat.le_refl 6) (by decide)) c_49)
          refine lv_iload_n hx hb dX3_repay_70 rfl (lv_at hl 2 rfl) ?_
          have ev : mRepay v n (nI i) = ((mRz (mT v 0) i 6), mLeft v i) := by unfold mRepay; rw [cnI (by omega)]; exact (if_neg c_10).trans ((if_neg (fun q => q.elim c_31 c_35)))
          exact W.iret (v := mLeft v i) hx hb hr (fun t ht hW => ⟨⟨(), by rw [ev], trivial, by rw [ht, ev]; exact hP, by rw [ev]; exact hD⟩, hS.F ht⟩) hS.2.2 dX3_repay_71
      · refine lv_aload_n hx hb dX3_repay_38 rfl (lv_at hl 1 rfl) ?_
        refine lv_iconst (v := 2) hx hb dX3_repay_39 (by decide) ?_
        refine caM (va_runV (As := [.int 2]) (rest := []) ⟨hx, hb, hml, hown, hts⟩ (c_X3_fails l G y a (u2 v 0 0 0) H.size 2) (cwV 1 hts gX3_repay_X3_fails rfl rfl rfl (by decide +kernel) ⟨Nat.le_of_ble_eq_true rfl, Nat.le_of_ble_eq_true rfl⟩) ⟨mP_bl, va_recv hK.1 hP (ci := 3) (q0 := 0) rfl rfl, fun U hU hW => ⟨rfl, by rw [hU], by rw [hU]; exact hP, Kb.moved hW hK, hD.weaken (fun _ _ _ _ => trivial)⟩⟩ rfl rfl hl.1 rfl (lv_room (Nat.le_of_ble_eq_true rfl)) dX3_repay_40 ⟨Nat.le_of_ble_eq_true rfl, Nat.le_of_ble_eq_true rfl⟩) hS (freeW hD hS hA) (freeW hD hS hA) (fun _ H locs _ hP hD _ _ hS => ?_)
        refine W.eq (g2 := F0 m 43 ls [.int 0]) rfl ?_
        have hP : va_P G vwCl (mdW y a (u2 (u2 v 0 0 0) 0 0 2)) H := hP
        have hD : va_D A (mdW y a (u2 (u2 v 0 0 0) 0 0 2)) := hD
        have ev : mRepay v n (nI i) = ((u2 (u2 v 0 0 0) 0 0 2), 0) := by unfold mRepay; rw [cnI (by omega)]; exact (if_neg c_10).trans ((if_pos (Or.inr c_35)))
        exact W.iret (v := 0) hx hb hr (fun t ht hW => ⟨⟨(), by rw [ev], trivial, by rw [ht, ev]; exact hP, by rw [ev]; exact hD⟩, hS.F ht⟩) hS.2.2 dX3_repay_43
  · refine lv_aload_n hx hb dX3_repay_13 rfl (lv_at hl 0 rfl) ?_
    refine lv_iconst (v := 1) hx hb dX3_repay_14 (by decide) ?_
    refine caM (va_runV (As := [.int 1]) (rest := []) ⟨hx, hb, hml, hown, hts⟩ (c_X3_fails l G y a (u2 v 0 0 0) H.size 1) (cwV 1 hts gX3_repay_X3_fails rfl rfl rfl (by decide +kernel) ⟨Nat.le_of_ble_eq_true rfl, Nat.le_of_ble_eq_true rfl⟩) ⟨mP_bl, va_recv hK.1 hP (ci := 3) (q0 := 0) rfl rfl, fun U hU hW => ⟨rfl, by rw [hU], by rw [hU]; exact hP, Kb.moved hW hK, hD.weaken (fun _ _ _ _ => trivial)⟩⟩ rfl rfl hl.1 rfl (lv_room (Nat.le_of_ble_eq_true rfl)) dX3_repay_15 ⟨Nat.le_of_ble_eq_true rfl, Nat.le_of_ble_eq_true rfl⟩) hS (freeW hD hS hA) (freeW hD hS hA) (fun _ H locs _ hP hD _ _ hS => ?_)
    refine W.eq (g2 := F0 m 18 ls [.int 0]) rfl ?_
    have hP : va_P G vwCl (mdW y a (u2 (u2 v 0 0 0) 0 0 1)) H := hP
    have hD : va_D A (mdW y a (u2 (u2 v 0 0 0) 0 0 1)) := hD
    have ev : mRepay v n x = ((u2 (u2 v 0 0 0) 0 0 1), 0) := by unfold mRepay; exact (if_pos c_10)
    exact W.iret (v := 0) hx hb hr (fun t ht hW => ⟨⟨(), by rw [ev], trivial, by rw [ht, ev]; exact hP, by rw [ev]; exact hD⟩, hS.F ht⟩) hS.2.2 dX3_repay_18
set_option maxHeartbeats 4000000 in
set_option maxRecDepth 100000 in
theorem c_X3_deposit (l : Launch) (G : va_G) (y : Nat → ClassId) (a : Nat → Nat) (v : MS) (sz : Nat) (x ch : Int32) : Met l yX3_deposit wsX3_deposit ({ frames := 2, cells := 0, slots := 0, locals := 44 }) (mP G y [.ref (a 0), .int x, .int ch] (mdW y a v) sz) (mQ G (fun _ : Unit => some (.int (mDep v x ch).2)) (fun _ => True) (fun _ => mdW y a (mDep v x ch).1) (va_A (mdW y a v) sz)) 0 0 (va_A (mdW y a v) sz) := by
  refine Met.ofW (cc := cX3_deposit) (maxL := 4) (ret := (some .int)) (by decide) rfl ?_
  intro p e s m args below meth c s₁ B hml hv
  obtain ⟨rfl, hsz, hP, hK, hD0⟩ := hv
  have hx := B.exec
  have hb := B.bytes
  have hr := B.returns
  have hts := atoms_spec (ws := wsX3_deposit) B.pre
  have hown : s.vm.findClass RX3 = some m.cls := findClass_of_methodNamed B.named
  have hlocks := B.notSynchronized
  subst hsz
  have hD := hD0.self (sz := s.heap.size)
  generalize hAe : va_A (mdW y a v) s.heap.size = A at hD ⊢
  have hA : ∀ q : Nat, s.heap.size ≤ q → A q := fun q h => by rw [← hAe]; exact Or.inr h
  have hS : va_S A s.heap s.heap [] := va_S.rf
  have hP : va_P G vwCl (mdW y a v) s.heap := hP
  have hl := lv_entry ([.ref (a 0), .int x, .int ch]) (n := 4) (Nat.le_of_ble_eq_true rfl)
  rw [lg_entry_eq]
  generalize (lg_sl ([.ref (a 0), .int x, .int ch]) ++ List.replicate (4 - (lg_sl ([.ref (a 0), .int x, .int ch])).length) Slot.unset).toArray = ls at hl ⊢
  have hin3 : ∀ w ∈ wsX30, w ∈ wsX3_deposit := by decide +kernel
  have hl : lv_has ls 4 [(0, .ref (a 0)), (1, .int x), (2, .int ch)] := hl
  refine lv_aload_n hx hb dX3_deposit_0 rfl (lv_at hl 0 rfl) ?_
  refine lv_iconst (v := 0) hx hb dX3_deposit_1 (by decide) ?_
  refine mdS (v := v) (x := 0) hx hb hts hin3 hown hK hP hD hS 0 (by decide) (hts (.fieldLink RX3 63 "FundBookModel" "thrown" "I") (by decide +kernel)) dX3_deposit_2 (fun H locs hP hD hS => ?_)
  refine lv_iload_n hx hb dX3_deposit_5 rfl (lv_at hl 1 rfl) ?_
  refine caR (r := .int (mIn x 0 2)) (va_runS (As := [.int x]) (rest := []) ⟨hx, hb, hml, hown, hts⟩ (c_X3_isBranch l x) (va_cwS 1 hts gX3_deposit_X3_isBranch rfl rfl rfl (by decide +kernel) ⟨Nat.le_of_ble_eq_true rfl, Nat.le_of_ble_eq_true rfl⟩) ⟨nP_bl, fun _ _ _ => ⟨rfl, trivial⟩⟩ rfl rfl hl.1 rfl (lv_room (Nat.le_of_ble_eq_true rfl)) dX3_deposit_6 ⟨Nat.le_of_ble_eq_true rfl, Nat.le_of_ble_eq_true rfl⟩) ?_
  refine lv_if_ne (tgt := 18) hx hb dX3_deposit_9 (by decide) (fun c_9 => ?_) (fun c_9 => ?_)
  · refine lv_iload_n hx hb dX3_deposit_18 rfl (lv_at hl 2 rfl) ?_
    refine lv_ldc (v := (-10000000)) hx hb hown (hts (.constant RX3 105 (-10000000)) (by decide +kernel)) dX3_deposit_19 ?_
    refine lv_ldc (v := 10000000) hx hb hown (hts (.constant RX3 95 10000000) (by decide +kernel)) dX3_deposit_21 ?_
    refine caR (r := .int (mIn ch (-10000000) 10000000)) (va_runS (As := [.int ch, .int (-10000000), .int 10000000]) (rest := []) ⟨hx, hb, hml, hown, hts⟩ (c_X3_in l ch (-10000000) 10000000) (va_cwS 3 hts gX3_deposit_X3_in rfl rfl rfl (by decide +kernel) ⟨Nat.le_of_ble_eq_true rfl, Nat.le_of_ble_eq_true rfl⟩) ⟨nP_bl, fun _ _ _ => ⟨rfl, trivial⟩⟩ rfl rfl hl.1 rfl (lv_room (Nat.le_of_ble_eq_true rfl)) dX3_deposit_23 ⟨Nat.le_of_ble_eq_true rfl, Nat.le_of_ble_eq_true rfl⟩) ?_
    refine lv_if_ne (tgt := 35) hx hb dX3_deposit_26 (by decide) (fun c_26 => ?_) (fun c_26 => ?_)
    · obtain ⟨i, hi, rfl⟩ := inN (M := 2) c_9 (by decide)
      refine lv_aload_n hx hb dX3_deposit_35 rfl (lv_at hl 0 rfl) ?_
      refine mdG (v := (u2 v 0 0 0)) (val := .ref (a 15)) hx hb hts hin3 hown hK hP 15 (by decide) (hts (.fieldLink RX3 42 "FundBookModel" "balance" "[I") (by decide +kernel)) rfl dX3_deposit_36 ?_
      refine lv_iload_n hx hb dX3_deposit_39 rfl (lv_at hl 1 rfl) ?_
      refine ldI (f := v 15) hx hb hK hP 10 rfl i rfl (by omega) (by decide) dX3_deposit_40 ?_
      refine lv_iload_n hx hb dX3_deposit_41 rfl (lv_at hl 2 rfl) ?_
      refine lv_iadd hx hb dX3_deposit_42 ?_
      refine lv_iconst (v := 0) hx hb dX3_deposit_43 (by decide) ?_
      refine lv_ldc (v := 10000000) hx hb hown (hts (.constant RX3 95 10000000) (by decide +kernel)) dX3_deposit_44 ?_
      refine caR (r := .int (mIn (v 15 i + ch) 0 10000000)) (va_runS (As := [.int (v 15 i + ch), .int 0, .int 10000000]) (rest := []) ⟨hx, hb, hml, hown, hts⟩ (c_X3_in l (v 15 i + ch) 0 10000000) (va_cwS 3 hts gX3_deposit_X3_in rfl rfl rfl (by decide +kernel) ⟨Nat.le_of_ble_eq_true rfl, Nat.le_of_ble_eq_true rfl⟩) ⟨nP_bl, fun _ _ _ => ⟨rfl, trivial⟩⟩ rfl rfl hl.1 rfl (lv_room (Nat.le_of_ble_eq_true rfl)) dX3_deposit_46 ⟨Nat.le_of_ble_eq_true rfl, Nat.le_of_ble_eq_true rfl⟩) ?_
      refine lv_if_ne (tgt := 58) hx hb dX3_deposit_49 (by decide) (fun c_49 => ?_) (fun c_49 => ?_)
      · refine lv_aload_n hx hb dX3_deposit_58 rfl (lv_at hl 0 rfl) ?_
        refine mdG (v := (u2 v 0 0 0)) (val := .ref (a 15)) hx hb hts hin3 hown hK hP 15 (by decide) (hts (.fieldLink RX3 42 "FundBookModel" "balance" "[I") (by decide +kernel)) rfl dX3_deposit_59 ?_
        refine lv_iload_n hx hb dX3_deposit_62 rfl (lv_at hl 1 rfl) ?_
        refine lv_dup2_11 hx hb dX3_deposit_63 rfl rfl ?_
        refine ldI (f := v 15) hx hb hK hP 10 rfl i rfl (by omega) (by decide) dX3_deposit_64 ?_
        refine lv_iload_n hx hb dX3_deposit_65 rfl (lv_at hl 2 rfl) ?_
        refine lv_iadd hx hb dX3_deposit_66 ?_
        refine stI (f := (u2 v 0 0 0) 15) (ws1 := mdW y a (u2 (u2 v 0 0 0) 15 i (v 15 i + ch))) hx hb hK hP hD hS 10 mg_15 i rfl (by omega) (by decide) ms_15 dX3_deposit_67 (fun H locs hP hD hS => ?_)
        refine lv_iconst (v := 0) hx hb dX3_deposit_68 (by decide) ?_
        refine lv_istore_n (lv' := [(3, .int 0), (0, .ref (a 0)), (1, .int (nI i)), (2, .int ch)]) hx hb dX3_deposit_69 rfl hl (by decide) rfl (fun ls hl => ?_)
        by_cases hc : v 0 1 = 0 ∧ ¬ ch = 0
        · refine loopM (LV := fun k => [(0, .ref (a 0)), (1, .int (nI i)), (2, .int ch), (3, .int (nI k))]) (WS := fun k => mdW y a (mLA (u2 (mT v 0) 15 i (v 15 i + ch)) k)) 6 hP hD hS (lv_sub hl [1, 2, 3, 0] rfl) (fun k H locs ls hk_k hP hD hS hl ih_k => ?_) (fun H locs ls hP hD hS hl => ?_)
          · have hl : lv_has ls 4 [(0, .ref (a 0)), (1, .int (nI i)), (2, .int ch), (3, .int (nI k))] := hl
            have hP : va_P G vwCl (mdW y a (mLA (u2 (mT v 0) 15 i (v 15 i + ch)) k)) H := hP
            have hD : va_D A (mdW y a (mLA (u2 (mT v 0) 15 i (v 15 i + ch)) k)) := hD
            refine lv_iload_n hx hb dX3_deposit_70 rfl (lv_at hl 3 rfl) ?_
            refine lv_bipush (v := 6) hx hb dX3_deposit_71 (by decide) ?_
            refine lv_icmp_ge (tgt := 98) hx hb dX3_deposit_73 (by decide) (fun c_73 => absurd c_73 (nI_ge hk_k (by decide))) (fun c_73 => ?_)
            refine lv_aload_n hx hb dX3_deposit_76 rfl (lv_at hl 0 rfl) ?_
            refine mdG (v := (mLA (u2 (mT v 0) 15 i (v 15 i + ch)) k)) (val := .int ((mLA (u2 (mT v 0) 15 i (v 15 i + ch)) k) 0 1)) hx hb hts hin3 hown hK hP 1 (by decide) (hts (.fieldLink RX3 73 "FundBookModel" "now" "I") (by decide +kernel)) rfl dX3_deposit_77 ?_
            refine lv_topE (z := v 0 1) (by rw [mLA_o (by decide) (by decide)]; rfl) ?_
            refine lv_if_ne (tgt := 98) hx hb dX3_deposit_80 (by decide) (fun c_80 => absurd hc.1 c_80) (fun c_80 => ?_)
            refine lv_iload_n hx hb dX3_deposit_83 rfl (lv_at hl 2 rfl) ?_
            refine lv_if_eq (tgt := 98) hx hb dX3_deposit_84 (by decide) (fun c_84 => absurd c_84 hc.2) (fun c_84 => ?_)
            refine lv_aload_n hx hb dX3_deposit_87 rfl (lv_at hl 0 rfl) ?_
            refine lv_iload_n hx hb dX3_deposit_88 rfl (lv_at hl 3 rfl) ?_
            refine caM (va_runV (As := [.int (nI k)]) (rest := []) ⟨hx, hb, hml, hown, hts⟩ (c_X3_lays l G y a (mLA (u2 (mT v 0) 15 i (v 15 i + ch)) k) H.size k hk_k) (cwV 1 hts gX3_deposit_X3_lays rfl rfl rfl (by decide +kernel) ⟨Nat.le_of_ble_eq_true rfl, Nat.le_of_ble_eq_true rfl⟩) ⟨mP_bl, va_recv hK.1 hP (ci := 3) (q0 := 0) rfl rfl, fun U hU hW => ⟨rfl, by rw [hU], by rw [hU]; exact hP, Kb.moved hW hK, hD.weaken (fun _ _ _ _ => trivial)⟩⟩ rfl rfl hl.1 rfl (lv_room (Nat.le_of_ble_eq_true rfl)) dX3_deposit_89 ⟨Nat.le_of_ble_eq_true rfl, Nat.le_of_ble_eq_true rfl⟩) hS (freeW hD hS hA) (freeW hD hS hA) (fun _ H locs _ hP hD _ _ hS => ?_)
            refine W.eq (g2 := F0 m 92 ls []) rfl ?_
            have hP : va_P G vwCl (mdW y a (mLay (mLA (u2 (mT v 0) 15 i (v 15 i + ch)) k) k)) H := hP
            have hD : va_D A (mdW y a (mLay (mLA (u2 (mT v 0) 15 i (v 15 i + ch)) k) k)) := hD
            refine lv_iinc (v := (nI (k + 1))) (lv' := [(3, .int (nI (k + 1))), (0, .ref (a 0)), (1, .int (nI i)), (2, .int ch)]) hx hb dX3_deposit_92 hl (k := 3) rfl iinc1 (by decide) rfl (fun ls hl => ?_)
            refine lv_goto (tgt := 70) hx hb dX3_deposit_95 (by decide) ?_
            exact ih_k _ _ ls hP hD hS (lv_sub hl [1, 2, 3, 0] rfl)
          · have hl : lv_has ls 4 [(0, .ref (a 0)), (1, .int (nI i)), (2, .int ch), (3, .int (nI 6))] := hl
            have hP : va_P G vwCl (mdW y a (mLA (u2 (mT v 0) 15 i (v 15 i + ch)) 6)) H := hP
            have hD : va_D A (mdW y a (mLA (u2 (mT v 0) 15 i (v 15 i + ch)) 6)) := hD
            refine lv_iload_n hx hb dX3_deposit_70 rfl (lv_at hl 3 rfl) ?_
            refine lv_bipush (v := 6) hx hb dX3_deposit_71 (by decide) ?_
            refine lv_icmp_ge (tgt := 98) hx hb dX3_deposit_73 (by decide) (fun c_73 => ?_) (fun c_73 => absurd (nI_le (Nat.le_refl 6) (by decide)) c_73)
            refine lv_aload_n hx hb dX3_deposit_98 rfl (lv_at hl 0 rfl) ?_
            refine mdG (v := (mLA (u2 (mT v 0) 15 i (v 15 i + ch)) 6)) (val := .ref (a 15)) hx hb hts hin3 hown hK hP 15 (by decide) (hts (.fieldLink RX3 42 "FundBookModel" "balance" "[I") (by decide +kernel)) rfl dX3_deposit_99 ?_
            refine lv_iload_n hx hb dX3_deposit_102 rfl (lv_at hl 1 rfl) ?_
            refine ldI (f := ((mLA (u2 (mT v 0) 15 i (v 15 i + ch)) 6) 15)) hx hb hK hP 10 mg_15 i rfl (by omega) (by decide) dX3_deposit_103 ?_
            refine lv_topE (z := (v 15 i + ch)) (by rw [mLA_o (by decide) (by decide)]; exact u2_s) ?_
            have ev : mDep v (nI i) ch = ((mLA (u2 (mT v 0) 15 i (v 15 i + ch)) 6), (v 15 i + ch)) := by unfold mDep; rw [cnI (by omega)]; exact (if_neg c_9).trans ((if_neg c_26).trans ((if_neg c_49).trans ((if_pos hc))))
            exact W.iret (v := (v 15 i + ch)) hx hb hr (fun t ht hW => ⟨⟨(), by rw [ev], trivial, by rw [ht, ev]; exact hP, by rw [ev]; exact hD⟩, hS.F ht⟩) hS.2.2 dX3_deposit_104
        · refine lv_iload_n hx hb dX3_deposit_70 rfl (lv_at hl 0 rfl) ?_
          refine lv_bipush (v := 6) hx hb dX3_deposit_71 (by decide) ?_
          refine lv_icmp_ge (tgt := 98) hx hb dX3_deposit_73 (by decide) (fun c_73 => absurd c_73 (by decide)) (fun c_73 => ?_)
          refine lv_aload_n hx hb dX3_deposit_76 rfl (lv_at hl 1 rfl) ?_
          refine mdG (v := (u2 (u2 v 0 0 0) 15 i (v 15 i + ch))) (val := .int (v 0 1)) hx hb hts hin3 hown hK hP 1 (by decide) (hts (.fieldLink RX3 73 "FundBookModel" "now" "I") (by decide +kernel)) rfl dX3_deposit_77 ?_
          refine lv_if_ne (tgt := 98) hx hb dX3_deposit_80 (by decide) (fun c_80 => ?_) (fun c_80 => ?_)
          · refine lv_aload_n hx hb dX3_deposit_98 rfl (lv_at hl 1 rfl) ?_
            refine mdG (v := (u2 (u2 v 0 0 0) 15 i (v 15 i + ch))) (val := .ref (a 15)) hx hb hts hin3 hown hK hP 15 (by decide) (hts (.fieldLink RX3 42 "FundBookModel" "balance" "[I") (by decide +kernel)) rfl dX3_deposit_99 ?_
            refine lv_iload_n hx hb dX3_deposit_102 rfl (lv_at hl 2 rfl) ?_
            refine ldI (f := ((u2 (u2 v 0 0 0) 15 i (v 15 i + ch)) 15)) hx hb hK hP 10 mg_15 i rfl (by omega) (by decide) dX3_deposit_103 ?_
            refine lv_topE (z := (v 15 i + ch)) (u2_s) ?_
            have ev : mDep v (nI i) ch = ((u2 (u2 v 0 0 0) 15 i (v 15 i + ch)), (v 15 i + ch)) := by unfold mDep; rw [cnI (by omega)]; exact (if_neg c_9).trans ((if_neg c_26).trans ((if_neg c_49).trans ((if_neg hc))))
            exact W.iret (v := (v 15 i + ch)) hx hb hr (fun t ht hW => ⟨⟨(), by rw [ev], trivial, by rw [ht, ev]; exact hP, by rw [ev]; exact hD⟩, hS.F ht⟩) hS.2.2 dX3_deposit_104
          · refine lv_iload_n hx hb dX3_deposit_83 rfl (lv_at hl 3 rfl) ?_
            refine lv_if_eq (tgt := 98) hx hb dX3_deposit_84 (by decide) (fun c_84 => ?_) (fun c_84 => absurd ⟨c_80, c_84⟩ hc)
            refine lv_aload_n hx hb dX3_deposit_98 rfl (lv_at hl 1 rfl) ?_
            refine mdG (v := (u2 (u2 v 0 0 0) 15 i (v 15 i + ch))) (val := .ref (a 15)) hx hb hts hin3 hown hK hP 15 (by decide) (hts (.fieldLink RX3 42 "FundBookModel" "balance" "[I") (by decide +kernel)) rfl dX3_deposit_99 ?_
            refine lv_iload_n hx hb dX3_deposit_102 rfl (lv_at hl 2 rfl) ?_
            refine ldI (f := ((u2 (u2 v 0 0 0) 15 i (v 15 i + ch)) 15)) hx hb hK hP 10 mg_15 i rfl (by omega) (by decide) dX3_deposit_103 ?_
            refine lv_topE (z := (v 15 i + ch)) (u2_s) ?_
            have ev : mDep v (nI i) ch = ((u2 (u2 v 0 0 0) 15 i (v 15 i + ch)), (v 15 i + ch)) := by unfold mDep; rw [cnI (by omega)]; exact (if_neg c_9).trans ((if_neg c_26).trans ((if_neg c_49).trans ((if_neg hc))))
            exact W.iret (v := (v 15 i + ch)) hx hb hr (fun t ht hW => ⟨⟨(), by rw [ev], trivial, by rw [ht, ev]; exact hP, by rw [ev]; exact hD⟩, hS.F ht⟩) hS.2.2 dX3_deposit_104
      · refine lv_aload_n hx hb dX3_deposit_52 rfl (lv_at hl 0 rfl) ?_
        refine lv_iconst (v := 3) hx hb dX3_deposit_53 (by decide) ?_
        refine caM (va_runV (As := [.int 3]) (rest := []) ⟨hx, hb, hml, hown, hts⟩ (c_X3_fails l G y a (u2 v 0 0 0) H.size 3) (cwV 1 hts gX3_deposit_X3_fails rfl rfl rfl (by decide +kernel) ⟨Nat.le_of_ble_eq_true rfl, Nat.le_of_ble_eq_true rfl⟩) ⟨mP_bl, va_recv hK.1 hP (ci := 3) (q0 := 0) rfl rfl, fun U hU hW => ⟨rfl, by rw [hU], by rw [hU]; exact hP, Kb.moved hW hK, hD.weaken (fun _ _ _ _ => trivial)⟩⟩ rfl rfl hl.1 rfl (lv_room (Nat.le_of_ble_eq_true rfl)) dX3_deposit_54 ⟨Nat.le_of_ble_eq_true rfl, Nat.le_of_ble_eq_true rfl⟩) hS (freeW hD hS hA) (freeW hD hS hA) (fun _ H locs _ hP hD _ _ hS => ?_)
        refine W.eq (g2 := F0 m 57 ls [.int 0]) rfl ?_
        have hP : va_P G vwCl (mdW y a (u2 (u2 v 0 0 0) 0 0 3)) H := hP
        have hD : va_D A (mdW y a (u2 (u2 v 0 0 0) 0 0 3)) := hD
        have ev : mDep v (nI i) ch = ((u2 (u2 v 0 0 0) 0 0 3), 0) := by unfold mDep; rw [cnI (by omega)]; exact (if_neg c_9).trans ((if_neg c_26).trans ((if_pos c_49)))
        exact W.iret (v := 0) hx hb hr (fun t ht hW => ⟨⟨(), by rw [ev], trivial, by rw [ht, ev]; exact hP, by rw [ev]; exact hD⟩, hS.F ht⟩) hS.2.2 dX3_deposit_57
    · refine lv_aload_n hx hb dX3_deposit_29 rfl (lv_at hl 0 rfl) ?_
      refine lv_iconst (v := 2) hx hb dX3_deposit_30 (by decide) ?_
      refine caM (va_runV (As := [.int 2]) (rest := []) ⟨hx, hb, hml, hown, hts⟩ (c_X3_fails l G y a (u2 v 0 0 0) H.size 2) (cwV 1 hts gX3_deposit_X3_fails rfl rfl rfl (by decide +kernel) ⟨Nat.le_of_ble_eq_true rfl, Nat.le_of_ble_eq_true rfl⟩) ⟨mP_bl, va_recv hK.1 hP (ci := 3) (q0 := 0) rfl rfl, fun U hU hW => ⟨rfl, by rw [hU], by rw [hU]; exact hP, Kb.moved hW hK, hD.weaken (fun _ _ _ _ => trivial)⟩⟩ rfl rfl hl.1 rfl (lv_room (Nat.le_of_ble_eq_true rfl)) dX3_deposit_31 ⟨Nat.le_of_ble_eq_true rfl, Nat.le_of_ble_eq_true rfl⟩) hS (freeW hD hS hA) (freeW hD hS hA) (fun _ H locs _ hP hD _ _ hS => ?_)
      refine W.eq (g2 := F0 m 34 ls [.int 0]) rfl ?_
      have hP : va_P G vwCl (mdW y a (u2 (u2 v 0 0 0) 0 0 2)) H := hP
      have hD : va_D A (mdW y a (u2 (u2 v 0 0 0) 0 0 2)) := hD
      have ev : mDep v x ch = ((u2 (u2 v 0 0 0) 0 0 2), 0) := by unfold mDep; exact (if_neg c_9).trans ((if_pos c_26))
      exact W.iret (v := 0) hx hb hr (fun t ht hW => ⟨⟨(), by rw [ev], trivial, by rw [ht, ev]; exact hP, by rw [ev]; exact hD⟩, hS.F ht⟩) hS.2.2 dX3_deposit_34
  · refine lv_aload_n hx hb dX3_deposit_12 rfl (lv_at hl 0 rfl) ?_
    refine lv_iconst (v := 1) hx hb dX3_deposit_13 (by decide) ?_
    refine caM (va_runV (As := [.int 1]) (rest := []) ⟨hx, hb, hml, hown, hts⟩ (c_X3_fails l G y a (u2 v 0 0 0) H.size 1) (cwV 1 hts gX3_deposit_X3_fails rfl rfl rfl (by decide +kernel) ⟨Nat.le_of_ble_eq_true rfl, Nat.le_of_ble_eq_true rfl⟩) ⟨mP_bl, va_recv hK.1 hP (ci := 3) (q0 := 0) rfl rfl, fun U hU hW => ⟨rfl, by rw [hU], by rw [hU]; exact hP, Kb.moved hW hK, hD.weaken (fun _ _ _ _ => trivial)⟩⟩ rfl rfl hl.1 rfl (lv_room (Nat.le_of_ble_eq_true rfl)) dX3_deposit_14 ⟨Nat.le_of_ble_eq_true rfl, Nat.le_of_ble_eq_true rfl⟩) hS (freeW hD hS hA) (freeW hD hS hA) (fun _ H locs _ hP hD _ _ hS => ?_)
    refine W.eq (g2 := F0 m 17 ls [.int 0]) rfl ?_
    have hP : va_P G vwCl (mdW y a (u2 (u2 v 0 0 0) 0 0 1)) H := hP
    have hD : va_D A (mdW y a (u2 (u2 v 0 0 0) 0 0 1)) := hD
    have ev : mDep v x ch = ((u2 (u2 v 0 0 0) 0 0 1), 0) := by unfold mDep; exact (if_pos c_9)
    exact W.iret (v := 0) hx hb hr (fun t ht hW => ⟨⟨(), by rw [ev], trivial, by rw [ht, ev]; exact hP, by rw [ev]; exact hD⟩, hS.F ht⟩) hS.2.2 dX3_deposit_17
set_option maxHeartbeats 4000000 in
set_option maxRecDepth 100000 in
theorem c_X3_left (l : Launch) (G : va_G) (y : Nat → ClassId) (a : Nat → Nat) (v : MS) (sz : Nat) (x : Int32) (n : Nat) (hn : v 0 6 = nI n) (hn24 : n ≤ 24) : Met l yX3_left wsX3_left ({ frames := 2, cells := 0, slots := 0, locals := 43 }) (mP G y [.ref (a 0), .int x] (mdW y a v) sz) (mQ G (fun _ : Unit => some (.int (mLeftA v n x).2)) (fun _ => True) (fun _ => mdW y a (mLeftA v n x).1) (va_A (mdW y a v) sz)) 0 0 (va_A (mdW y a v) sz) := by
  refine Met.ofW (cc := cX3_left) (maxL := 2) (ret := (some .int)) (by decide) rfl ?_
  intro p e s m args below meth c s₁ B hml hv
  obtain ⟨rfl, hsz, hP, hK, hD0⟩ := hv
  have hx := B.exec
  have hb := B.bytes
  have hr := B.returns
  have hts := atoms_spec (ws := wsX3_left) B.pre
  have hown : s.vm.findClass RX3 = some m.cls := findClass_of_methodNamed B.named
  have hlocks := B.notSynchronized
  subst hsz
  have hD := hD0.self (sz := s.heap.size)
  generalize hAe : va_A (mdW y a v) s.heap.size = A at hD ⊢
  have hA : ∀ q : Nat, s.heap.size ≤ q → A q := fun q h => by rw [← hAe]; exact Or.inr h
  have hS : va_S A s.heap s.heap [] := va_S.rf
  have hP : va_P G vwCl (mdW y a v) s.heap := hP
  have hl := lv_entry ([.ref (a 0), .int x]) (n := 2) (Nat.le_of_ble_eq_true rfl)
  rw [lg_entry_eq]
  generalize (lg_sl ([.ref (a 0), .int x]) ++ List.replicate (2 - (lg_sl ([.ref (a 0), .int x])).length) Slot.unset).toArray = ls at hl ⊢
  have hin3 : ∀ w ∈ wsX30, w ∈ wsX3_left := by decide +kernel
  have hl : lv_has ls 2 [(0, .ref (a 0)), (1, .int x)] := hl
  refine lv_aload_n hx hb dX3_left_0 rfl (lv_at hl 0 rfl) ?_
  refine lv_iconst (v := 0) hx hb dX3_left_1 (by decide) ?_
  refine mdS (v := v) (x := 0) hx hb hts hin3 hown hK hP hD hS 0 (by decide) (hts (.fieldLink RX3 63 "FundBookModel" "thrown" "I") (by decide +kernel)) dX3_left_2 (fun H locs hP hD hS => ?_)
  refine lv_aload_n hx hb dX3_left_5 rfl (lv_at hl 0 rfl) ?_
  refine lv_iload_n hx hb dX3_left_6 rfl (lv_at hl 1 rfl) ?_
  refine caR (r := .int (mIn x 0 (v 0 6 - 1))) (va_runV (As := [.int x]) (rest := []) ⟨hx, hb, hml, hown, hts⟩ (c_X3_isLoan l G y a (u2 v 0 0 0) x) (cwV 1 hts gX3_left_X3_isLoan rfl rfl rfl (by decide +kernel) ⟨Nat.le_of_ble_eq_true rfl, Nat.le_of_ble_eq_true rfl⟩) ⟨rP_bl, va_recv hK.1 hP (ci := 3) (q0 := 0) rfl rfl, fun U hU hW => ⟨rfl, by rw [hU]; exact hP, Kb.moved hW hK⟩⟩ rfl rfl hl.1 rfl (lv_room (Nat.le_of_ble_eq_true rfl)) dX3_left_7 ⟨Nat.le_of_ble_eq_true rfl, Nat.le_of_ble_eq_true rfl⟩) ?_
  refine lv_topE (z := mIn x 0 (nI n - 1)) (by rw [hn]) ?_
  refine lv_if_eq (tgt := 21) hx hb dX3_left_10 (by decide) (fun c_10 => ?_) (fun c_10 => ?_)
  · refine lv_aload_n hx hb dX3_left_21 rfl (lv_at hl 0 rfl) ?_
    refine lv_iconst (v := 1) hx hb dX3_left_22 (by decide) ?_
    refine caM (va_runV (As := [.int 1]) (rest := []) ⟨hx, hb, hml, hown, hts⟩ (c_X3_fails l G y a (u2 v 0 0 0) H.size 1) (cwV 1 hts gX3_left_X3_fails rfl rfl rfl (by decide +kernel) ⟨Nat.le_of_ble_eq_true rfl, Nat.le_of_ble_eq_true rfl⟩) ⟨mP_bl, va_recv hK.1 hP (ci := 3) (q0 := 0) rfl rfl, fun U hU hW => ⟨rfl, by rw [hU], by rw [hU]; exact hP, Kb.moved hW hK, hD.weaken (fun _ _ _ _ => trivial)⟩⟩ rfl rfl hl.1 rfl (lv_room (Nat.le_of_ble_eq_true rfl)) dX3_left_23 ⟨Nat.le_of_ble_eq_true rfl, Nat.le_of_ble_eq_true rfl⟩) hS (freeW hD hS hA) (freeW hD hS hA) (fun _ H locs _ hP hD _ _ hS => ?_)
    refine W.eq (g2 := F0 m 26 ls [.int 0]) rfl ?_
    have hP : va_P G vwCl (mdW y a (u2 (u2 v 0 0 0) 0 0 1)) H := hP
    have hD : va_D A (mdW y a (u2 (u2 v 0 0 0) 0 0 1)) := hD
    have ev : mLeftA v n x = ((u2 (u2 v 0 0 0) 0 0 1), 0) := by unfold mLeftA; exact (if_pos c_10)
    exact W.iret (v := 0) hx hb hr (fun t ht hW => ⟨⟨(), by rw [ev], trivial, by rw [ht, ev]; exact hP, by rw [ev]; exact hD⟩, hS.F ht⟩) hS.2.2 dX3_left_26
  · obtain ⟨i, hi, rfl⟩ := inL c_10 (by omega)
    refine lv_aload_n hx hb dX3_left_13 rfl (lv_at hl 0 rfl) ?_
    refine lv_iload_n hx hb dX3_left_14 rfl (lv_at hl 1 rfl) ?_
    refine caR (r := .int (mLeft v i)) (va_runV (As := [.int (nI i)]) (rest := []) ⟨hx, hb, hml, hown, hts⟩ (c_X3_leftOf l G y a (u2 v 0 0 0) i (by omega)) (cwV 1 hts gX3_left_X3_leftOf rfl rfl rfl (by decide +kernel) ⟨Nat.le_of_ble_eq_true rfl, Nat.le_of_ble_eq_true rfl⟩) ⟨rP_bl, va_recv hK.1 hP (ci := 3) (q0 := 0) rfl rfl, fun U hU hW => ⟨rfl, by rw [hU]; exact hP, Kb.moved hW hK⟩⟩ rfl rfl hl.1 rfl (lv_room (Nat.le_of_ble_eq_true rfl)) dX3_left_15 ⟨Nat.le_of_ble_eq_true rfl, Nat.le_of_ble_eq_true rfl⟩) ?_
    refine lv_goto (tgt := 26) hx hb dX3_left_18 (by decide) ?_
    have ev : mLeftA v n (nI i) = ((u2 v 0 0 0), mLeft v i) := by unfold mLeftA; rw [cnI (by omega)]; exact (if_neg c_10)
    exact W.iret (v := mLeft v i) hx hb hr (fun t ht hW => ⟨⟨(), by rw [ev], trivial, by rw [ht, ev]; exact hP, by rw [ev]; exact hD⟩, hS.F ht⟩) hS.2.2 dX3_left_26
set_option maxHeartbeats 4000000 in
set_option maxRecDepth 100000 in
theorem c_X3_bears (l : Launch) (G : va_G) (y : Nat → ClassId) (a : Nat → Nat) (v : MS) (sz : Nat) (x w : Int32) (n : Nat) (hn : v 0 6 = nI n) (hn24 : n ≤ 24) : Met l yX3_bears wsX3_bears ({ frames := 2, cells := 0, slots := 0, locals := 52 }) (mP G y [.ref (a 0), .int x, .int w] (mdW y a v) sz) (mQ G (fun _ : Unit => some (.int (mBears v n x w).2)) (fun _ => True) (fun _ => mdW y a (mBears v n x w).1) (va_A (mdW y a v) sz)) 0 0 (va_A (mdW y a v) sz) := by
  refine Met.ofW (cc := cX3_bears) (maxL := 3) (ret := (some .int)) (by decide) rfl ?_
  intro p e s m args below meth c s₁ B hml hv
  obtain ⟨rfl, hsz, hP, hK, hD0⟩ := hv
  have hx := B.exec
  have hb := B.bytes
  have hr := B.returns
  have hts := atoms_spec (ws := wsX3_bears) B.pre
  have hown : s.vm.findClass RX3 = some m.cls := findClass_of_methodNamed B.named
  have hlocks := B.notSynchronized
  subst hsz
  have hD := hD0.self (sz := s.heap.size)
  generalize hAe : va_A (mdW y a v) s.heap.size = A at hD ⊢
  have hA : ∀ q : Nat, s.heap.size ≤ q → A q := fun q h => by rw [← hAe]; exact Or.inr h
  have hS : va_S A s.heap s.heap [] := va_S.rf
  have hP : va_P G vwCl (mdW y a v) s.heap := hP
  have hl := lv_entry ([.ref (a 0), .int x, .int w]) (n := 3) (Nat.le_of_ble_eq_true rfl)
  rw [lg_entry_eq]
  generalize (lg_sl ([.ref (a 0), .int x, .int w]) ++ List.replicate (3 - (lg_sl ([.ref (a 0), .int x, .int w])).length) Slot.unset).toArray = ls at hl ⊢
  have hin3 : ∀ w ∈ wsX30, w ∈ wsX3_bears := by decide +kernel
  have hl : lv_has ls 3 [(0, .ref (a 0)), (1, .int x), (2, .int w)] := hl
  refine lv_aload_n hx hb dX3_bears_0 rfl (lv_at hl 0 rfl) ?_
  refine lv_iconst (v := 0) hx hb dX3_bears_1 (by decide) ?_
  refine mdS (v := v) (x := 0) hx hb hts hin3 hown hK hP hD hS 0 (by decide) (hts (.fieldLink RX3 63 "FundBookModel" "thrown" "I") (by decide +kernel)) dX3_bears_2 (fun H locs hP hD hS => ?_)
  refine lv_aload_n hx hb dX3_bears_5 rfl (lv_at hl 0 rfl) ?_
  refine lv_iload_n hx hb dX3_bears_6 rfl (lv_at hl 1 rfl) ?_
  refine caR (r := .int (mIn x 0 (v 0 6 - 1))) (va_runV (As := [.int x]) (rest := []) ⟨hx, hb, hml, hown, hts⟩ (c_X3_isLoan l G y a (u2 v 0 0 0) x) (cwV 1 hts gX3_bears_X3_isLoan rfl rfl rfl (by decide +kernel) ⟨Nat.le_of_ble_eq_true rfl, Nat.le_of_ble_eq_true rfl⟩) ⟨rP_bl, va_recv hK.1 hP (ci := 3) (q0 := 0) rfl rfl, fun U hU hW => ⟨rfl, by rw [hU]; exact hP, Kb.moved hW hK⟩⟩ rfl rfl hl.1 rfl (lv_room (Nat.le_of_ble_eq_true rfl)) dX3_bears_7 ⟨Nat.le_of_ble_eq_true rfl, Nat.le_of_ble_eq_true rfl⟩) ?_
  refine lv_topE (z := mIn x 0 (nI n - 1)) (by rw [hn]) ?_
  refine lv_if_ne (tgt := 19) hx hb dX3_bears_10 (by decide) (fun c_10 => ?_) (fun c_10 => ?_)
  · refine lv_iload_n hx hb dX3_bears_19 rfl (lv_at hl 2 rfl) ?_
    refine lv_iconst (v := 0) hx hb dX3_bears_20 (by decide) ?_
    refine lv_iconst (v := 3) hx hb dX3_bears_21 (by decide) ?_
    refine caR (r := .int (mIn w 0 3)) (va_runS (As := [.int w, .int 0, .int 3]) (rest := []) ⟨hx, hb, hml, hown, hts⟩ (c_X3_in l w 0 3) (va_cwS 3 hts gX3_bears_X3_in rfl rfl rfl (by decide +kernel) ⟨Nat.le_of_ble_eq_true rfl, Nat.le_of_ble_eq_true rfl⟩) ⟨nP_bl, fun _ _ _ => ⟨rfl, trivial⟩⟩ rfl rfl hl.1 rfl (lv_room (Nat.le_of_ble_eq_true rfl)) dX3_bears_22 ⟨Nat.le_of_ble_eq_true rfl, Nat.le_of_ble_eq_true rfl⟩) ?_
    refine lv_if_eq (tgt := 37) hx hb dX3_bears_25 (by decide) (fun c_25 => ?_) (fun c_25 => ?_)
    · refine lv_aload_n hx hb dX3_bears_37 rfl (lv_at hl 0 rfl) ?_
      refine lv_iconst (v := 2) hx hb dX3_bears_38 (by decide) ?_
      refine caM (va_runV (As := [.int 2]) (rest := []) ⟨hx, hb, hml, hown, hts⟩ (c_X3_fails l G y a (u2 v 0 0 0) H.size 2) (cwV 1 hts gX3_bears_X3_fails rfl rfl rfl (by decide +kernel) ⟨Nat.le_of_ble_eq_true rfl, Nat.le_of_ble_eq_true rfl⟩) ⟨mP_bl, va_recv hK.1 hP (ci := 3) (q0 := 0) rfl rfl, fun U hU hW => ⟨rfl, by rw [hU], by rw [hU]; exact hP, Kb.moved hW hK, hD.weaken (fun _ _ _ _ => trivial)⟩⟩ rfl rfl hl.1 rfl (lv_room (Nat.le_of_ble_eq_true rfl)) dX3_bears_39 ⟨Nat.le_of_ble_eq_true rfl, Nat.le_of_ble_eq_true rfl⟩) hS (freeW hD hS hA) (freeW hD hS hA) (fun _ H locs _ hP hD _ _ hS => ?_)
      refine W.eq (g2 := F0 m 42 ls [.int 0]) rfl ?_
      have hP : va_P G vwCl (mdW y a (u2 (u2 v 0 0 0) 0 0 2)) H := hP
      have hD : va_D A (mdW y a (u2 (u2 v 0 0 0) 0 0 2)) := hD
      have ev : mBears v n x w = ((u2 (u2 v 0 0 0) 0 0 2), 0) := by unfold mBears; exact (if_neg c_10).trans ((if_pos c_25))
      exact W.iret (v := 0) hx hb hr (fun t ht hW => ⟨⟨(), by rw [ev], trivial, by rw [ht, ev]; exact hP, by rw [ev]; exact hD⟩, hS.F ht⟩) hS.2.2 dX3_bears_42
    · obtain ⟨i, hi, rfl⟩ := inL c_10 (by omega)
      refine lv_aload_n hx hb dX3_bears_28 rfl (lv_at hl 0 rfl) ?_
      refine lv_iload_n hx hb dX3_bears_29 rfl (lv_at hl 1 rfl) ?_
      refine lv_iload_n hx hb dX3_bears_30 rfl (lv_at hl 2 rfl) ?_
      refine caR (r := .int (mBear v i w)) (va_runV (As := [.int (nI i), .int w]) (rest := []) ⟨hx, hb, hml, hown, hts⟩ (c_X3_bear l G y a (u2 v 0 0 0) i (by omega) w) (cwV 2 hts gX3_bears_X3_bear rfl rfl rfl (by decide +kernel) ⟨Nat.le_of_ble_eq_true rfl, Nat.le_of_ble_eq_true rfl⟩) ⟨rP_bl, va_recv hK.1 hP (ci := 3) (q0 := 0) rfl rfl, fun U hU hW => ⟨rfl, by rw [hU]; exact hP, Kb.moved hW hK⟩⟩ rfl rfl hl.1 rfl (lv_room (Nat.le_of_ble_eq_true rfl)) dX3_bears_31 ⟨Nat.le_of_ble_eq_true rfl, Nat.le_of_ble_eq_true rfl⟩) ?_
      refine lv_goto (tgt := 42) hx hb dX3_bears_34 (by decide) ?_
      have ev : mBears v n (nI i) w = ((u2 v 0 0 0), mBear v i w) := by unfold mBears; rw [cnI (by omega)]; exact (if_neg c_10).trans ((if_neg c_25))
      exact W.iret (v := mBear v i w) hx hb hr (fun t ht hW => ⟨⟨(), by rw [ev], trivial, by rw [ht, ev]; exact hP, by rw [ev]; exact hD⟩, hS.F ht⟩) hS.2.2 dX3_bears_42
  · refine lv_aload_n hx hb dX3_bears_13 rfl (lv_at hl 0 rfl) ?_
    refine lv_iconst (v := 1) hx hb dX3_bears_14 (by decide) ?_
    refine caM (va_runV (As := [.int 1]) (rest := []) ⟨hx, hb, hml, hown, hts⟩ (c_X3_fails l G y a (u2 v 0 0 0) H.size 1) (cwV 1 hts gX3_bears_X3_fails rfl rfl rfl (by decide +kernel) ⟨Nat.le_of_ble_eq_true rfl, Nat.le_of_ble_eq_true rfl⟩) ⟨mP_bl, va_recv hK.1 hP (ci := 3) (q0 := 0) rfl rfl, fun U hU hW => ⟨rfl, by rw [hU], by rw [hU]; exact hP, Kb.moved hW hK, hD.weaken (fun _ _ _ _ => trivial)⟩⟩ rfl rfl hl.1 rfl (lv_room (Nat.le_of_ble_eq_true rfl)) dX3_bears_15 ⟨Nat.le_of_ble_eq_true rfl, Nat.le_of_ble_eq_true rfl⟩) hS (freeW hD hS hA) (freeW hD hS hA) (fun _ H locs _ hP hD _ _ hS => ?_)
    refine W.eq (g2 := F0 m 18 ls [.int 0]) rfl ?_
    have hP : va_P G vwCl (mdW y a (u2 (u2 v 0 0 0) 0 0 1)) H := hP
    have hD : va_D A (mdW y a (u2 (u2 v 0 0 0) 0 0 1)) := hD
    have ev : mBears v n x w = ((u2 (u2 v 0 0 0) 0 0 1), 0) := by unfold mBears; exact (if_pos c_10)
    exact W.iret (v := 0) hx hb hr (fun t ht hW => ⟨⟨(), by rw [ev], trivial, by rw [ht, ev]; exact hP, by rw [ev]; exact hD⟩, hS.F ht⟩) hS.2.2 dX3_bears_18
set_option maxHeartbeats 4000000 in
set_option maxRecDepth 100000 in
theorem c_X3_due (l : Launch) (G : va_G) (y : Nat → ClassId) (a : Nat → Nat) (v : MS) (sz : Nat) (x : Int32) (n : Nat) (hn : v 0 6 = nI n) (hn24 : n ≤ 24) (t : Nat) (ht : v 0 1 = nI t) (ht47 : t ≤ 47) (bo : Nat → Nat) (hbo : ∀ l, l < n → v 12 l = nI (bo l) ∧ bo l ≤ t) : Met l yX3_due wsX3_due ({ frames := 1, cells := 0, slots := 0, locals := 22 }) (mP G y [.ref (a 0), .int x] (mdW y a v) sz) (mQ G (fun _ : Unit => some (.int (mDue v bo n t x).2)) (fun _ => True) (fun _ => mdW y a (mDue v bo n t x).1) (va_A (mdW y a v) sz)) 0 0 (va_A (mdW y a v) sz) := by
  refine Met.ofW (cc := cX3_due) (maxL := 5) (ret := (some .int)) (by decide) rfl ?_
  intro p e s m args below meth c s₁ B hml hv
  obtain ⟨rfl, hsz, hP, hK, hD0⟩ := hv
  have hx := B.exec
  have hb := B.bytes
  have hr := B.returns
  have hts := atoms_spec (ws := wsX3_due) B.pre
  have hown : s.vm.findClass RX3 = some m.cls := findClass_of_methodNamed B.named
  have hlocks := B.notSynchronized
  subst hsz
  have hD := hD0.self (sz := s.heap.size)
  generalize hAe : va_A (mdW y a v) s.heap.size = A at hD ⊢
  have hA : ∀ q : Nat, s.heap.size ≤ q → A q := fun q h => by rw [← hAe]; exact Or.inr h
  have hS : va_S A s.heap s.heap [] := va_S.rf
  have hP : va_P G vwCl (mdW y a v) s.heap := hP
  have hl := lv_entry ([.ref (a 0), .int x]) (n := 5) (Nat.le_of_ble_eq_true rfl)
  rw [lg_entry_eq]
  generalize (lg_sl ([.ref (a 0), .int x]) ++ List.replicate (5 - (lg_sl ([.ref (a 0), .int x])).length) Slot.unset).toArray = ls at hl ⊢
  have hin3 : ∀ w ∈ wsX30, w ∈ wsX3_due := by decide +kernel
  have hl : lv_has ls 5 [(0, .ref (a 0)), (1, .int x)] := hl
  refine lv_aload_n hx hb dX3_due_0 rfl (lv_at hl 0 rfl) ?_
  refine lv_iconst (v := 0) hx hb dX3_due_1 (by decide) ?_
  refine mdS (v := v) (x := 0) hx hb hts hin3 hown hK hP hD hS 0 (by decide) (hts (.fieldLink RX3 63 "FundBookModel" "thrown" "I") (by decide +kernel)) dX3_due_2 (fun H locs hP hD hS => ?_)
  refine lv_iload_n hx hb dX3_due_5 rfl (lv_at hl 1 rfl) ?_
  refine lv_iconst (v := 0) hx hb dX3_due_6 (by decide) ?_
  refine lv_iconst (v := 5) hx hb dX3_due_7 (by decide) ?_
  refine caR (r := .int (mIn x 0 5)) (va_runS (As := [.int x, .int 0, .int 5]) (rest := []) ⟨hx, hb, hml, hown, hts⟩ (c_X3_in l x 0 5) (va_cwS 3 hts gX3_due_X3_in rfl rfl rfl (by decide +kernel) ⟨Nat.le_of_ble_eq_true rfl, Nat.le_of_ble_eq_true rfl⟩) ⟨nP_bl, fun _ _ _ => ⟨rfl, trivial⟩⟩ rfl rfl hl.1 rfl (lv_room (Nat.le_of_ble_eq_true rfl)) dX3_due_8 ⟨Nat.le_of_ble_eq_true rfl, Nat.le_of_ble_eq_true rfl⟩) ?_
  refine lv_if_ne (tgt := 20) hx hb dX3_due_11 (by decide) (fun c_11 => ?_) (fun c_11 => ?_)
  · obtain ⟨i, hi, rfl⟩ := inN (M := 5) c_11 (by decide)
    refine lv_iconst (v := 0) hx hb dX3_due_20 (by decide) ?_
    refine lv_istore_n (lv' := [(2, .int 0), (0, .ref (a 0)), (1, .int (nI i))]) hx hb dX3_due_21 rfl hl (by decide) rfl (fun ls hl => ?_)
    refine lv_iconst (v := 0) hx hb dX3_due_22 (by decide) ?_
    refine lv_istore_n (lv' := [(3, .int 0), (2, .int 0), (0, .ref (a 0)), (1, .int (nI i))]) hx hb dX3_due_23 rfl hl (by decide) rfl (fun ls hl => ?_)
    refine loopW (LV := fun k => [(0, .ref (a 0)), (1, .int (nI i)), (2, .int (S32 (mDuP v bo (t + i)) k)), (3, .int (nI k))]) n (lv_sub hl [2, 3, 1, 0] rfl) (fun k ls hk_k hl ih_k => ?_) (fun ls hl => ?_)
    · have hl : lv_has ls 5 [(0, .ref (a 0)), (1, .int (nI i)), (2, .int (S32 (mDuP v bo (t + i)) k)), (3, .int (nI k))] := hl
      have hbk : bo k ≤ t + i := Nat.le_trans (hbo k hk_k).2 (by omega)
      refine lv_iload_n hx hb dX3_due_24 rfl (lv_at hl 3 rfl) ?_
      refine lv_aload_n hx hb dX3_due_25 rfl (lv_at hl 0 rfl) ?_
      refine mdG (v := (u2 v 0 0 0)) (val := .int (v 0 6)) hx hb hts hin3 hown hK hP 6 (by decide) (hts (.fieldLink RX3 66 "FundBookModel" "loans" "I") (by decide +kernel)) rfl dX3_due_26 ?_
      refine lv_topE (z := nI n) (hn) ?_
      refine lv_icmp_ge (tgt := 79) hx hb dX3_due_29 (by decide) (fun c_29 => absurd c_29 (nI_ge hk_k (by omega))) (fun c_29 => ?_)
      refine lv_aload_n hx hb dX3_due_32 rfl (lv_at hl 0 rfl) ?_
      refine mdG (v := (u2 v 0 0 0)) (val := .int (v 0 1)) hx hb hts hin3 hown hK hP 1 (by decide) (hts (.fieldLink RX3 73 "FundBookModel" "now" "I") (by decide +kernel)) rfl dX3_due_33 ?_
      refine lv_topE (z := nI t) (ht) ?_
      refine lv_iload_n hx hb dX3_due_36 rfl (lv_at hl 1 rfl) ?_
      refine lv_iadd hx hb dX3_due_37 ?_
      refine lv_topE (z := nI (t + i)) (nI_add t i) ?_
      refine lv_aload_n hx hb dX3_due_38 rfl (lv_at hl 0 rfl) ?_
      refine mdG (v := (u2 v 0 0 0)) (val := .ref (a 12)) hx hb hts hin3 hown hK hP 12 (by decide) (hts (.fieldLink RX3 33 "FundBookModel" "born" "[I") (by decide +kernel)) rfl dX3_due_39 ?_
      refine lv_iload_n hx hb dX3_due_42 rfl (lv_at hl 3 rfl) ?_
      refine ldI (f := v 12) hx hb hK hP 7 rfl k rfl (by omega) (by decide) dX3_due_43 ?_
      refine lv_topE (z := nI (bo k)) ((hbo k hk_k).1) ?_
      refine lv_isub hx hb dX3_due_44 ?_
      refine lv_topE (z := nI (t + i - bo k)) (pk_sub hbk) ?_
      refine lv_istore (lv' := [(4, .int (nI (t + i - bo k))), (0, .ref (a 0)), (1, .int (nI i)), (2, .int (S32 (mDuP v bo (t + i)) k)), (3, .int (nI k))]) hx hb dX3_due_45 hl (by decide) rfl (fun ls hl => ?_)
      refine lv_iload_n hx hb dX3_due_47 rfl (lv_at hl 3 rfl) ?_
      refine lv_iload hx hb dX3_due_48 (lv_at hl 0 rfl) ?_
      refine lv_bipush (v := 6) hx hb dX3_due_50 (by decide) ?_
      refine lv_icmp_ge (tgt := 70) hx hb dX3_due_52 (by decide) (fun c_52 => ?_) (fun c_52 => ?_)
      · have h6 : ¬ t + i - bo k < 6 := fun q => nI_ge q (by decide) c_52
        refine lv_iconst (v := 0) hx hb dX3_due_70 (by decide) ?_
        refine lv_iadd hx hb dX3_due_71 ?_
        refine lv_topE (z := S32 (mDuP v bo (t + i)) (k + 1)) (by show _ = S32 (mDuP v bo (t + i)) k + mDuP v bo (t + i) k; rw [mDuP, if_neg h6]) ?_
        refine lv_istore_n (lv' := [(2, .int (S32 (mDuP v bo (t + i)) (k + 1))), (4, .int (nI (t + i - bo k))), (0, .ref (a 0)), (1, .int (nI i)), (3, .int (nI k))]) hx hb dX3_due_72 rfl hl (by decide) rfl (fun ls hl => ?_)
        refine lv_iinc (v := (nI (k + 1))) (lv' := [(3, .int (nI (k + 1))), (2, .int (S32 (mDuP v bo (t + i)) (k + 1))), (4, .int (nI (t + i - bo k))), (0, .ref (a 0)), (1, .int (nI i))]) hx hb dX3_due_73 hl (k := 4) rfl iinc1 (by decide) rfl (fun ls hl => ?_)
        refine lv_goto (tgt := 24) hx hb dX3_due_76 (by decide) ?_
        exact ih_k ls (lv_sub hl [3, 4, 1, 0] rfl)
      · have h6 : t + i - bo k < 6 := n6lt c_52 (by omega)
        refine lv_aload_n hx hb dX3_due_55 rfl (lv_at hl 1 rfl) ?_
        refine mdG (v := (u2 v 0 0 0)) (val := .ref (a 13)) hx hb hts hin3 hown hK hP 13 (by decide) (hts (.fieldLink RX3 36 "FundBookModel" "part" "[I") (by decide +kernel)) rfl dX3_due_56 ?_
        refine lv_bipush (v := 6) hx hb dX3_due_59 (by decide) ?_
        refine lv_iload_n hx hb dX3_due_61 rfl (lv_at hl 4 rfl) ?_
        refine lv_imul hx hb dX3_due_62 ?_
        refine lv_iload hx hb dX3_due_63 (lv_at hl 0 rfl) ?_
        refine lv_iadd hx hb dX3_due_65 ?_
        refine lv_topE (z := nI (6 * k + (t + i - bo k))) (ix6) ?_
        refine ldI (f := v 13) hx hb hK hP 8 rfl (6 * k + (t + i - bo k)) rfl (by omega) (by decide) dX3_due_66 ?_
        refine lv_goto (tgt := 71) hx hb dX3_due_67 (by decide) ?_
        refine lv_iadd hx hb dX3_due_71 ?_
        refine lv_topE (z := S32 (mDuP v bo (t + i)) (k + 1)) (by show _ = S32 (mDuP v bo (t + i)) k + mDuP v bo (t + i) k; rw [mDuP, if_pos h6]) ?_
        refine lv_istore_n (lv' := [(2, .int (S32 (mDuP v bo (t + i)) (k + 1))), (4, .int (nI (t + i - bo k))), (0, .ref (a 0)), (1, .int (nI i)), (3, .int (nI k))]) hx hb dX3_due_72 rfl hl (by decide) rfl (fun ls hl => ?_)
        refine lv_iinc (v := (nI (k + 1))) (lv' := [(3, .int (nI (k + 1))), (2, .int (S32 (mDuP v bo (t + i)) (k + 1))), (4, .int (nI (t + i - bo k))), (0, .ref (a 0)), (1, .int (nI i))]) hx hb dX3_due_73 hl (k := 4) rfl iinc1 (by decide) rfl (fun ls hl => ?_)
        refine lv_goto (tgt := 24) hx hb dX3_due_76 (by decide) ?_
        exact ih_k ls (lv_sub hl [3, 4, 1, 0] rfl)
    · have hl : lv_has ls 5 [(0, .ref (a 0)), (1, .int (nI i)), (2, .int (S32 (mDuP v bo (t + i)) n)), (3, .int (nI n))] := hl
      refine lv_iload_n hx hb dX3_due_24 rfl (lv_at hl 3 rfl) ?_
      refine lv_aload_n hx hb dX3_due_25 rfl (lv_at hl 0 rfl) ?_
      refine mdG (v := (u2 v 0 0 0)) (val := .int (v 0 6)) hx hb hts hin3 hown hK hP 6 (by decide) (hts (.fieldLink RX3 66 "FundBookModel" "loans" "I") (by decide +kernel)) rfl dX3_due_26 ?_
      refine lv_topE (z := nI n) (hn) ?_
      refine lv_icmp_ge (tgt := 79) hx hb dX3_due_29 (by decide) (fun c_29 => ?_) (fun c_29 => absurd (nI_le (Nat.le_refl n) (by omega)) c_29)
      refine lv_iload_n hx hb dX3_due_79 rfl (lv_at hl 2 rfl) ?_
      have ev : mDue v bo n t (nI i) = ((u2 v 0 0 0), S32 (mDuP v bo (t + i)) n) := by unfold mDue; rw [cnI (by omega)]; exact (if_neg c_11)
      exact W.iret (v := S32 (mDuP v bo (t + i)) n) hx hb hr (fun t ht hW => ⟨⟨(), by rw [ev], trivial, by rw [ht, ev]; exact hP, by rw [ev]; exact hD⟩, hS.F ht⟩) hS.2.2 dX3_due_80
  · refine lv_aload_n hx hb dX3_due_14 rfl (lv_at hl 0 rfl) ?_
    refine lv_iconst (v := 1) hx hb dX3_due_15 (by decide) ?_
    refine caM (va_runV (As := [.int 1]) (rest := []) ⟨hx, hb, hml, hown, hts⟩ (c_X3_fails l G y a (u2 v 0 0 0) H.size 1) (cwV 1 hts gX3_due_X3_fails rfl rfl rfl (by decide +kernel) ⟨Nat.le_of_ble_eq_true rfl, Nat.le_of_ble_eq_true rfl⟩) ⟨mP_bl, va_recv hK.1 hP (ci := 3) (q0 := 0) rfl rfl, fun U hU hW => ⟨rfl, by rw [hU], by rw [hU]; exact hP, Kb.moved hW hK, hD.weaken (fun _ _ _ _ => trivial)⟩⟩ rfl rfl hl.1 rfl (lv_room (Nat.le_of_ble_eq_true rfl)) dX3_due_16 ⟨Nat.le_of_ble_eq_true rfl, Nat.le_of_ble_eq_true rfl⟩) hS (freeW hD hS hA) (freeW hD hS hA) (fun _ H locs _ hP hD _ _ hS => ?_)
    refine W.eq (g2 := F0 m 19 ls [.int 0]) rfl ?_
    have hP : va_P G vwCl (mdW y a (u2 (u2 v 0 0 0) 0 0 1)) H := hP
    have hD : va_D A (mdW y a (u2 (u2 v 0 0 0) 0 0 1)) := hD
    have ev : mDue v bo n t x = ((u2 (u2 v 0 0 0) 0 0 1), 0) := by unfold mDue; exact (if_pos c_11)
    exact W.iret (v := 0) hx hb hr (fun t ht hW => ⟨⟨(), by rw [ev], trivial, by rw [ht, ev]; exact hP, by rw [ev]; exact hD⟩, hS.F ht⟩) hS.2.2 dX3_due_19
set_option maxHeartbeats 4000000 in
set_option maxRecDepth 100000 in
theorem c_X3_balance (l : Launch) (G : va_G) (y : Nat → ClassId) (a : Nat → Nat) (v : MS) (sz : Nat) (x : Int32) : Met l yX3_balance wsX3_balance ({ frames := 2, cells := 0, slots := 0, locals := 42 }) (mP G y [.ref (a 0), .int x] (mdW y a v) sz) (mQ G (fun _ : Unit => some (.int (mBal v x).2)) (fun _ => True) (fun _ => mdW y a (mBal v x).1) (va_A (mdW y a v) sz)) 0 0 (va_A (mdW y a v) sz) := by
  refine Met.ofW (cc := cX3_balance) (maxL := 2) (ret := (some .int)) (by decide) rfl ?_
  intro p e s m args below meth c s₁ B hml hv
  obtain ⟨rfl, hsz, hP, hK, hD0⟩ := hv
  have hx := B.exec
  have hb := B.bytes
  have hr := B.returns
  have hts := atoms_spec (ws := wsX3_balance) B.pre
  have hown : s.vm.findClass RX3 = some m.cls := findClass_of_methodNamed B.named
  have hlocks := B.notSynchronized
  subst hsz
  have hD := hD0.self (sz := s.heap.size)
  generalize hAe : va_A (mdW y a v) s.heap.size = A at hD ⊢
  have hA : ∀ q : Nat, s.heap.size ≤ q → A q := fun q h => by rw [← hAe]; exact Or.inr h
  have hS : va_S A s.heap s.heap [] := va_S.rf
  have hP : va_P G vwCl (mdW y a v) s.heap := hP
  have hl := lv_entry ([.ref (a 0), .int x]) (n := 2) (Nat.le_of_ble_eq_true rfl)
  rw [lg_entry_eq]
  generalize (lg_sl ([.ref (a 0), .int x]) ++ List.replicate (2 - (lg_sl ([.ref (a 0), .int x])).length) Slot.unset).toArray = ls at hl ⊢
  have hin3 : ∀ w ∈ wsX30, w ∈ wsX3_balance := by decide +kernel
  have hl : lv_has ls 2 [(0, .ref (a 0)), (1, .int x)] := hl
  refine lv_aload_n hx hb dX3_balance_0 rfl (lv_at hl 0 rfl) ?_
  refine lv_iconst (v := 0) hx hb dX3_balance_1 (by decide) ?_
  refine mdS (v := v) (x := 0) hx hb hts hin3 hown hK hP hD hS 0 (by decide) (hts (.fieldLink RX3 63 "FundBookModel" "thrown" "I") (by decide +kernel)) dX3_balance_2 (fun H locs hP hD hS => ?_)
  refine lv_iload_n hx hb dX3_balance_5 rfl (lv_at hl 1 rfl) ?_
  refine caR (r := .int (mIn x 0 2)) (va_runS (As := [.int x]) (rest := []) ⟨hx, hb, hml, hown, hts⟩ (c_X3_isBranch l x) (va_cwS 1 hts gX3_balance_X3_isBranch rfl rfl rfl (by decide +kernel) ⟨Nat.le_of_ble_eq_true rfl, Nat.le_of_ble_eq_true rfl⟩) ⟨nP_bl, fun _ _ _ => ⟨rfl, trivial⟩⟩ rfl rfl hl.1 rfl (lv_room (Nat.le_of_ble_eq_true rfl)) dX3_balance_6 ⟨Nat.le_of_ble_eq_true rfl, Nat.le_of_ble_eq_true rfl⟩) ?_
  refine lv_if_eq (tgt := 21) hx hb dX3_balance_9 (by decide) (fun c_9 => ?_) (fun c_9 => ?_)
  · refine lv_aload_n hx hb dX3_balance_21 rfl (lv_at hl 0 rfl) ?_
    refine lv_iconst (v := 1) hx hb dX3_balance_22 (by decide) ?_
    refine caM (va_runV (As := [.int 1]) (rest := []) ⟨hx, hb, hml, hown, hts⟩ (c_X3_fails l G y a (u2 v 0 0 0) H.size 1) (cwV 1 hts gX3_balance_X3_fails rfl rfl rfl (by decide +kernel) ⟨Nat.le_of_ble_eq_true rfl, Nat.le_of_ble_eq_true rfl⟩) ⟨mP_bl, va_recv hK.1 hP (ci := 3) (q0 := 0) rfl rfl, fun U hU hW => ⟨rfl, by rw [hU], by rw [hU]; exact hP, Kb.moved hW hK, hD.weaken (fun _ _ _ _ => trivial)⟩⟩ rfl rfl hl.1 rfl (lv_room (Nat.le_of_ble_eq_true rfl)) dX3_balance_23 ⟨Nat.le_of_ble_eq_true rfl, Nat.le_of_ble_eq_true rfl⟩) hS (freeW hD hS hA) (freeW hD hS hA) (fun _ H locs _ hP hD _ _ hS => ?_)
    refine W.eq (g2 := F0 m 26 ls [.int 0]) rfl ?_
    have hP : va_P G vwCl (mdW y a (u2 (u2 v 0 0 0) 0 0 1)) H := hP
    have hD : va_D A (mdW y a (u2 (u2 v 0 0 0) 0 0 1)) := hD
    have ev : mBal v x = ((u2 (u2 v 0 0 0) 0 0 1), 0) := by unfold mBal; exact (if_pos c_9)
    exact W.iret (v := 0) hx hb hr (fun t ht hW => ⟨⟨(), by rw [ev], trivial, by rw [ht, ev]; exact hP, by rw [ev]; exact hD⟩, hS.F ht⟩) hS.2.2 dX3_balance_26
  · obtain ⟨i, hi, rfl⟩ := inN (M := 2) c_9 (by decide)
    refine lv_aload_n hx hb dX3_balance_12 rfl (lv_at hl 0 rfl) ?_
    refine mdG (v := (u2 v 0 0 0)) (val := .ref (a 15)) hx hb hts hin3 hown hK hP 15 (by decide) (hts (.fieldLink RX3 42 "FundBookModel" "balance" "[I") (by decide +kernel)) rfl dX3_balance_13 ?_
    refine lv_iload_n hx hb dX3_balance_16 rfl (lv_at hl 1 rfl) ?_
    refine ldI (f := v 15) hx hb hK hP 10 rfl i rfl (by omega) (by decide) dX3_balance_17 ?_
    refine lv_goto (tgt := 26) hx hb dX3_balance_18 (by decide) ?_
    have ev : mBal v (nI i) = ((u2 v 0 0 0), v 15 i) := by unfold mBal; rw [cnI (by omega)]; exact (if_neg c_9)
    exact W.iret (v := v 15 i) hx hb hr (fun t ht hW => ⟨⟨(), by rw [ev], trivial, by rw [ht, ev]; exact hP, by rw [ev]; exact hD⟩, hS.F ht⟩) hS.2.2 dX3_balance_26
set_option maxHeartbeats 4000000 in
set_option maxRecDepth 100000 in
theorem c_X3_tranche (l : Launch) (G : va_G) (y : Nat → ClassId) (a : Nat → Nat) (v : MS) (sz : Nat) (x : Int32) : Met l yX3_tranche wsX3_tranche ({ frames := 1, cells := 0, slots := 0, locals := 22 }) (mP G y [.ref (a 0), .int x] (mdW y a v) sz) (mQ G (fun _ : Unit => some (.int (mTra v x).2)) (fun _ => True) (fun _ => mdW y a (mTra v x).1) (va_A (mdW y a v) sz)) 0 0 (va_A (mdW y a v) sz) := by
  refine Met.ofW (cc := cX3_tranche) (maxL := 2) (ret := (some .int)) (by decide) rfl ?_
  intro p e s m args below meth c s₁ B hml hv
  obtain ⟨rfl, hsz, hP, hK, hD0⟩ := hv
  have hx := B.exec
  have hb := B.bytes
  have hr := B.returns
  have hts := atoms_spec (ws := wsX3_tranche) B.pre
  have hown : s.vm.findClass RX3 = some m.cls := findClass_of_methodNamed B.named
  have hlocks := B.notSynchronized
  subst hsz
  have hD := hD0.self (sz := s.heap.size)
  generalize hAe : va_A (mdW y a v) s.heap.size = A at hD ⊢
  have hA : ∀ q : Nat, s.heap.size ≤ q → A q := fun q h => by rw [← hAe]; exact Or.inr h
  have hS : va_S A s.heap s.heap [] := va_S.rf
  have hP : va_P G vwCl (mdW y a v) s.heap := hP
  have hl := lv_entry ([.ref (a 0), .int x]) (n := 2) (Nat.le_of_ble_eq_true rfl)
  rw [lg_entry_eq]
  generalize (lg_sl ([.ref (a 0), .int x]) ++ List.replicate (2 - (lg_sl ([.ref (a 0), .int x])).length) Slot.unset).toArray = ls at hl ⊢
  have hin3 : ∀ w ∈ wsX30, w ∈ wsX3_tranche := by decide +kernel
  have hl : lv_has ls 2 [(0, .ref (a 0)), (1, .int x)] := hl
  refine lv_aload_n hx hb dX3_tranche_0 rfl (lv_at hl 0 rfl) ?_
  refine lv_iconst (v := 0) hx hb dX3_tranche_1 (by decide) ?_
  refine mdS (v := v) (x := 0) hx hb hts hin3 hown hK hP hD hS 0 (by decide) (hts (.fieldLink RX3 63 "FundBookModel" "thrown" "I") (by decide +kernel)) dX3_tranche_2 (fun H locs hP hD hS => ?_)
  refine lv_iload_n hx hb dX3_tranche_5 rfl (lv_at hl 1 rfl) ?_
  refine lv_iconst (v := 0) hx hb dX3_tranche_6 (by decide) ?_
  refine lv_iconst (v := 5) hx hb dX3_tranche_7 (by decide) ?_
  refine caR (r := .int (mIn x 0 5)) (va_runS (As := [.int x, .int 0, .int 5]) (rest := []) ⟨hx, hb, hml, hown, hts⟩ (c_X3_in l x 0 5) (va_cwS 3 hts gX3_tranche_X3_in rfl rfl rfl (by decide +kernel) ⟨Nat.le_of_ble_eq_true rfl, Nat.le_of_ble_eq_true rfl⟩) ⟨nP_bl, fun _ _ _ => ⟨rfl, trivial⟩⟩ rfl rfl hl.1 rfl (lv_room (Nat.le_of_ble_eq_true rfl)) dX3_tranche_8 ⟨Nat.le_of_ble_eq_true rfl, Nat.le_of_ble_eq_true rfl⟩) ?_
  refine lv_if_eq (tgt := 23) hx hb dX3_tranche_11 (by decide) (fun c_11 => ?_) (fun c_11 => ?_)
  · refine lv_aload_n hx hb dX3_tranche_23 rfl (lv_at hl 0 rfl) ?_
    refine lv_iconst (v := 1) hx hb dX3_tranche_24 (by decide) ?_
    refine caM (va_runV (As := [.int 1]) (rest := []) ⟨hx, hb, hml, hown, hts⟩ (c_X3_fails l G y a (u2 v 0 0 0) H.size 1) (cwV 1 hts gX3_tranche_X3_fails rfl rfl rfl (by decide +kernel) ⟨Nat.le_of_ble_eq_true rfl, Nat.le_of_ble_eq_true rfl⟩) ⟨mP_bl, va_recv hK.1 hP (ci := 3) (q0 := 0) rfl rfl, fun U hU hW => ⟨rfl, by rw [hU], by rw [hU]; exact hP, Kb.moved hW hK, hD.weaken (fun _ _ _ _ => trivial)⟩⟩ rfl rfl hl.1 rfl (lv_room (Nat.le_of_ble_eq_true rfl)) dX3_tranche_25 ⟨Nat.le_of_ble_eq_true rfl, Nat.le_of_ble_eq_true rfl⟩) hS (freeW hD hS hA) (freeW hD hS hA) (fun _ H locs _ hP hD _ _ hS => ?_)
    refine W.eq (g2 := F0 m 28 ls [.int 0]) rfl ?_
    have hP : va_P G vwCl (mdW y a (u2 (u2 v 0 0 0) 0 0 1)) H := hP
    have hD : va_D A (mdW y a (u2 (u2 v 0 0 0) 0 0 1)) := hD
    have ev : mTra v x = ((u2 (u2 v 0 0 0) 0 0 1), 0) := by unfold mTra; exact (if_pos c_11)
    exact W.iret (v := 0) hx hb hr (fun t ht hW => ⟨⟨(), by rw [ev], trivial, by rw [ht, ev]; exact hP, by rw [ev]; exact hD⟩, hS.F ht⟩) hS.2.2 dX3_tranche_28
  · obtain ⟨i, hi, rfl⟩ := inN (M := 5) c_11 (by decide)
    refine lv_aload_n hx hb dX3_tranche_14 rfl (lv_at hl 0 rfl) ?_
    refine mdG (v := (u2 v 0 0 0)) (val := .ref (a 16)) hx hb hts hin3 hown hK hP 16 (by decide) (hts (.fieldLink RX3 45 "FundBookModel" "tranche" "[I") (by decide +kernel)) rfl dX3_tranche_15 ?_
    refine lv_iload_n hx hb dX3_tranche_18 rfl (lv_at hl 1 rfl) ?_
    refine ldI (f := v 16) hx hb hK hP 11 rfl i rfl (by omega) (by decide) dX3_tranche_19 ?_
    refine lv_goto (tgt := 28) hx hb dX3_tranche_20 (by decide) ?_
    have ev : mTra v (nI i) = ((u2 v 0 0 0), v 16 i) := by unfold mTra; rw [cnI (by omega)]; exact (if_neg c_11)
    exact W.iret (v := v 16 i) hx hb hr (fun t ht hW => ⟨⟨(), by rw [ev], trivial, by rw [ht, ev]; exact hP, by rw [ev]; exact hD⟩, hS.F ht⟩) hS.2.2 dX3_tranche_28
set_option maxHeartbeats 4000000 in
set_option maxRecDepth 100000 in
theorem c_X3_replicaRate (l : Launch) (G : va_G) (y : Nat → ClassId) (a : Nat → Nat) (v : MS) (sz : Nat)  : Met l yX3_replicaRate wsX3_replicaRate ({ frames := 1, cells := 0, slots := 0, locals := 25 }) (mP G y [.ref (a 0)] (mdW y a v) sz) (mQ G (fun _ : Unit => some (.int (((mT v 0, mRep v) : MS × Int32)).2)) (fun _ => True) (fun _ => mdW y a (((mT v 0, mRep v) : MS × Int32)).1) (va_A (mdW y a v) sz)) 0 0 (va_A (mdW y a v) sz) := by
  refine Met.ofW (cc := cX3_replicaRate) (maxL := 1) (ret := (some .int)) (by decide) rfl ?_
  intro p e s m args below meth c s₁ B hml hv
  obtain ⟨rfl, hsz, hP, hK, hD0⟩ := hv
  have hx := B.exec
  have hb := B.bytes
  have hr := B.returns
  have hts := atoms_spec (ws := wsX3_replicaRate) B.pre
  have hown : s.vm.findClass RX3 = some m.cls := findClass_of_methodNamed B.named
  have hlocks := B.notSynchronized
  subst hsz
  have hD := hD0.self (sz := s.heap.size)
  generalize hAe : va_A (mdW y a v) s.heap.size = A at hD ⊢
  have hA : ∀ q : Nat, s.heap.size ≤ q → A q := fun q h => by rw [← hAe]; exact Or.inr h
  have hS : va_S A s.heap s.heap [] := va_S.rf
  have hP : va_P G vwCl (mdW y a v) s.heap := hP
  have hl := lv_entry ([.ref (a 0)]) (n := 1) (Nat.le_of_ble_eq_true rfl)
  rw [lg_entry_eq]
  generalize (lg_sl ([.ref (a 0)]) ++ List.replicate (1 - (lg_sl ([.ref (a 0)])).length) Slot.unset).toArray = ls at hl ⊢
  have hin3 : ∀ w ∈ wsX30, w ∈ wsX3_replicaRate := by decide +kernel
  have hl : lv_has ls 1 [(0, .ref (a 0))] := hl
  refine lv_aload_n hx hb dX3_replicaRate_0 rfl (lv_at hl 0 rfl) ?_
  refine lv_iconst (v := 0) hx hb dX3_replicaRate_1 (by decide) ?_
  refine mdS (v := v) (x := 0) hx hb hts hin3 hown hK hP hD hS 0 (by decide) (hts (.fieldLink RX3 63 "FundBookModel" "thrown" "I") (by decide +kernel)) dX3_replicaRate_2 (fun H locs hP hD hS => ?_)
  refine lv_aload_n hx hb dX3_replicaRate_5 rfl (lv_at hl 0 rfl) ?_
  refine caR (r := .int (mRep v)) (va_runV (As := []) (rest := []) ⟨hx, hb, hml, hown, hts⟩ (c_X3_replica l G y a (u2 v 0 0 0) ) (cwV 0 hts gX3_replicaRate_X3_replica rfl rfl rfl (by decide +kernel) ⟨Nat.le_of_ble_eq_true rfl, Nat.le_of_ble_eq_true rfl⟩) ⟨rP_bl, va_recv hK.1 hP (ci := 3) (q0 := 0) rfl rfl, fun U hU hW => ⟨rfl, by rw [hU]; exact hP, Kb.moved hW hK⟩⟩ rfl rfl hl.1 rfl (lv_room (Nat.le_of_ble_eq_true rfl)) dX3_replicaRate_6 ⟨Nat.le_of_ble_eq_true rfl, Nat.le_of_ble_eq_true rfl⟩) ?_
  have ev : ((mT v 0, mRep v) : MS × Int32) = ((u2 v 0 0 0), mRep v) := by rfl
  exact W.iret (v := mRep v) hx hb hr (fun t ht hW => ⟨⟨(), by rw [ev], trivial, by rw [ht, ev]; exact hP, by rw [ev]; exact hD⟩, hS.F ht⟩) hS.2.2 dX3_replicaRate_9
set_option maxHeartbeats 4000000 in
set_option maxRecDepth 100000 in
theorem c_X3_margin (l : Launch) (G : va_G) (y : Nat → ClassId) (a : Nat → Nat) (v : MS) (sz : Nat) (x mo : Int32) (t : Nat) (ht : v 0 1 = nI t) (ht47 : t ≤ 47) : Met l yX3_margin wsX3_margin ({ frames := 2, cells := 0, slots := 0, locals := 43 }) (mP G y [.ref (a 0), .int x, .int mo] (mdW y a v) sz) (mQ G (fun _ : Unit => some (.int (mMar v t x mo).2)) (fun _ => True) (fun _ => mdW y a (mMar v t x mo).1) (va_A (mdW y a v) sz)) 0 0 (va_A (mdW y a v) sz) := by
  refine Met.ofW (cc := cX3_margin) (maxL := 3) (ret := (some .int)) (by decide) rfl ?_
  intro p e s m args below meth c s₁ B hml hv
  obtain ⟨rfl, hsz, hP, hK, hD0⟩ := hv
  have hx := B.exec
  have hb := B.bytes
  have hr := B.returns
  have hts := atoms_spec (ws := wsX3_margin) B.pre
  have hown : s.vm.findClass RX3 = some m.cls := findClass_of_methodNamed B.named
  have hlocks := B.notSynchronized
  subst hsz
  have hD := hD0.self (sz := s.heap.size)
  generalize hAe : va_A (mdW y a v) s.heap.size = A at hD ⊢
  have hA : ∀ q : Nat, s.heap.size ≤ q → A q := fun q h => by rw [← hAe]; exact Or.inr h
  have hS : va_S A s.heap s.heap [] := va_S.rf
  have hP : va_P G vwCl (mdW y a v) s.heap := hP
  have hl := lv_entry ([.ref (a 0), .int x, .int mo]) (n := 3) (Nat.le_of_ble_eq_true rfl)
  rw [lg_entry_eq]
  generalize (lg_sl ([.ref (a 0), .int x, .int mo]) ++ List.replicate (3 - (lg_sl ([.ref (a 0), .int x, .int mo])).length) Slot.unset).toArray = ls at hl ⊢
  have hin3 : ∀ w ∈ wsX30, w ∈ wsX3_margin := by decide +kernel
  have hl : lv_has ls 3 [(0, .ref (a 0)), (1, .int x), (2, .int mo)] := hl
  refine lv_aload_n hx hb dX3_margin_0 rfl (lv_at hl 0 rfl) ?_
  refine lv_iconst (v := 0) hx hb dX3_margin_1 (by decide) ?_
  refine mdS (v := v) (x := 0) hx hb hts hin3 hown hK hP hD hS 0 (by decide) (hts (.fieldLink RX3 63 "FundBookModel" "thrown" "I") (by decide +kernel)) dX3_margin_2 (fun H locs hP hD hS => ?_)
  refine lv_iload_n hx hb dX3_margin_5 rfl (lv_at hl 1 rfl) ?_
  refine caR (r := .int (mIn x 0 2)) (va_runS (As := [.int x]) (rest := []) ⟨hx, hb, hml, hown, hts⟩ (c_X3_isBranch l x) (va_cwS 1 hts gX3_margin_X3_isBranch rfl rfl rfl (by decide +kernel) ⟨Nat.le_of_ble_eq_true rfl, Nat.le_of_ble_eq_true rfl⟩) ⟨nP_bl, fun _ _ _ => ⟨rfl, trivial⟩⟩ rfl rfl hl.1 rfl (lv_room (Nat.le_of_ble_eq_true rfl)) dX3_margin_6 ⟨Nat.le_of_ble_eq_true rfl, Nat.le_of_ble_eq_true rfl⟩) ?_
  refine lv_if_eq (tgt := 33) hx hb dX3_margin_9 (by decide) (fun c_9 => ?_) (fun c_9 => ?_)
  · refine lv_aload_n hx hb dX3_margin_33 rfl (lv_at hl 0 rfl) ?_
    refine lv_iconst (v := 1) hx hb dX3_margin_34 (by decide) ?_
    refine caM (va_runV (As := [.int 1]) (rest := []) ⟨hx, hb, hml, hown, hts⟩ (c_X3_fails l G y a (u2 v 0 0 0) H.size 1) (cwV 1 hts gX3_margin_X3_fails rfl rfl rfl (by decide +kernel) ⟨Nat.le_of_ble_eq_true rfl, Nat.le_of_ble_eq_true rfl⟩) ⟨mP_bl, va_recv hK.1 hP (ci := 3) (q0 := 0) rfl rfl, fun U hU hW => ⟨rfl, by rw [hU], by rw [hU]; exact hP, Kb.moved hW hK, hD.weaken (fun _ _ _ _ => trivial)⟩⟩ rfl rfl hl.1 rfl (lv_room (Nat.le_of_ble_eq_true rfl)) dX3_margin_35 ⟨Nat.le_of_ble_eq_true rfl, Nat.le_of_ble_eq_true rfl⟩) hS (freeW hD hS hA) (freeW hD hS hA) (fun _ H locs _ hP hD _ _ hS => ?_)
    refine W.eq (g2 := F0 m 38 ls [.int 0]) rfl ?_
    have hP : va_P G vwCl (mdW y a (u2 (u2 v 0 0 0) 0 0 1)) H := hP
    have hD : va_D A (mdW y a (u2 (u2 v 0 0 0) 0 0 1)) := hD
    have ev : mMar v t x mo = ((u2 (u2 v 0 0 0) 0 0 1), 0) := by unfold mMar; exact (if_pos (Or.inl c_9))
    exact W.iret (v := 0) hx hb hr (fun t ht hW => ⟨⟨(), by rw [ev], trivial, by rw [ht, ev]; exact hP, by rw [ev]; exact hD⟩, hS.F ht⟩) hS.2.2 dX3_margin_38
  · refine lv_aload_n hx hb dX3_margin_12 rfl (lv_at hl 0 rfl) ?_
    refine lv_iload_n hx hb dX3_margin_13 rfl (lv_at hl 2 rfl) ?_
    refine caR (r := .int (mIn mo 0 (v 0 1 - 1))) (va_runV (As := [.int mo]) (rest := []) ⟨hx, hb, hml, hown, hts⟩ (c_X3_isEnded l G y a (u2 v 0 0 0) mo) (cwV 1 hts gX3_margin_X3_isEnded rfl rfl rfl (by decide +kernel) ⟨Nat.le_of_ble_eq_true rfl, Nat.le_of_ble_eq_true rfl⟩) ⟨rP_bl, va_recv hK.1 hP (ci := 3) (q0 := 0) rfl rfl, fun U hU hW => ⟨rfl, by rw [hU]; exact hP, Kb.moved hW hK⟩⟩ rfl rfl hl.1 rfl (lv_room (Nat.le_of_ble_eq_true rfl)) dX3_margin_14 ⟨Nat.le_of_ble_eq_true rfl, Nat.le_of_ble_eq_true rfl⟩) ?_
    refine lv_topE (z := mIn mo 0 (nI t - 1)) (by rw [ht]) ?_
    refine lv_if_eq (tgt := 33) hx hb dX3_margin_17 (by decide) (fun c_17 => ?_) (fun c_17 => ?_)
    · refine lv_aload_n hx hb dX3_margin_33 rfl (lv_at hl 0 rfl) ?_
      refine lv_iconst (v := 1) hx hb dX3_margin_34 (by decide) ?_
      refine caM (va_runV (As := [.int 1]) (rest := []) ⟨hx, hb, hml, hown, hts⟩ (c_X3_fails l G y a (u2 v 0 0 0) H.size 1) (cwV 1 hts gX3_margin_X3_fails rfl rfl rfl (by decide +kernel) ⟨Nat.le_of_ble_eq_true rfl, Nat.le_of_ble_eq_true rfl⟩) ⟨mP_bl, va_recv hK.1 hP (ci := 3) (q0 := 0) rfl rfl, fun U hU hW => ⟨rfl, by rw [hU], by rw [hU]; exact hP, Kb.moved hW hK, hD.weaken (fun _ _ _ _ => trivial)⟩⟩ rfl rfl hl.1 rfl (lv_room (Nat.le_of_ble_eq_true rfl)) dX3_margin_35 ⟨Nat.le_of_ble_eq_true rfl, Nat.le_of_ble_eq_true rfl⟩) hS (freeW hD hS hA) (freeW hD hS hA) (fun _ H locs _ hP hD _ _ hS => ?_)
      refine W.eq (g2 := F0 m 38 ls [.int 0]) rfl ?_
      have hP : va_P G vwCl (mdW y a (u2 (u2 v 0 0 0) 0 0 1)) H := hP
      have hD : va_D A (mdW y a (u2 (u2 v 0 0 0) 0 0 1)) := hD
      have ev : mMar v t x mo = ((u2 (u2 v 0 0 0) 0 0 1), 0) := by unfold mMar; exact (if_pos (Or.inr c_17))
      exact W.iret (v := 0) hx hb hr (fun t ht hW => ⟨⟨(), by rw [ev], trivial, by rw [ht, ev]; exact hP, by rw [ev]; exact hD⟩, hS.F ht⟩) hS.2.2 dX3_margin_38
    · obtain ⟨i, hi, rfl⟩ := inN (M := 2) c_9 (by decide)
      obtain ⟨j, hj, rfl⟩ := inL c_17 (by omega)
      refine lv_aload_n hx hb dX3_margin_20 rfl (lv_at hl 0 rfl) ?_
      refine mdG (v := (u2 v 0 0 0)) (val := .ref (a 18)) hx hb hts hin3 hown hK hP 18 (by decide) (hts (.fieldLink RX3 51 "FundBookModel" "margins" "[I") (by decide +kernel)) rfl dX3_margin_21 ?_
      refine lv_iconst (v := 3) hx hb dX3_margin_24 (by decide) ?_
      refine lv_iload_n hx hb dX3_margin_25 rfl (lv_at hl 2 rfl) ?_
      refine lv_imul hx hb dX3_margin_26 ?_
      refine lv_iload_n hx hb dX3_margin_27 rfl (lv_at hl 1 rfl) ?_
      refine lv_iadd hx hb dX3_margin_28 ?_
      refine lv_topE (z := nI (3 * j + i)) (ix3) ?_
      refine ldI (f := v 18) hx hb hK hP 13 rfl (3 * j + i) rfl (by omega) (by decide) dX3_margin_29 ?_
      refine lv_goto (tgt := 38) hx hb dX3_margin_30 (by decide) ?_
      have ev : mMar v t (nI i) (nI j) = ((u2 v 0 0 0), v 18 (3 * j + i)) := by unfold mMar; rw [cnI (show i < 2 ^ 31 by omega), cnI (show j < 2 ^ 31 by omega)]; exact if_neg (fun q => q.elim c_9 c_17)
      exact W.iret (v := v 18 (3 * j + i)) hx hb hr (fun t ht hW => ⟨⟨(), by rw [ev], trivial, by rw [ht, ev]; exact hP, by rw [ev]; exact hD⟩, hS.F ht⟩) hS.2.2 dX3_margin_38
set_option maxHeartbeats 4000000 in
set_option maxRecDepth 100000 in
theorem c_X3_byProduct (l : Launch) (G : va_G) (y : Nat → ClassId) (a : Nat → Nat) (v : MS) (sz : Nat) (x mo : Int32) (t : Nat) (ht : v 0 1 = nI t) (ht47 : t ≤ 47) : Met l yX3_byProduct wsX3_byProduct ({ frames := 2, cells := 0, slots := 0, locals := 43 }) (mP G y [.ref (a 0), .int x, .int mo] (mdW y a v) sz) (mQ G (fun _ : Unit => some (.int (mPro v t x mo).2)) (fun _ => True) (fun _ => mdW y a (mPro v t x mo).1) (va_A (mdW y a v) sz)) 0 0 (va_A (mdW y a v) sz) := by
  refine Met.ofW (cc := cX3_byProduct) (maxL := 3) (ret := (some .int)) (by decide) rfl ?_
  intro p e s m args below meth c s₁ B hml hv
  obtain ⟨rfl, hsz, hP, hK, hD0⟩ := hv
  have hx := B.exec
  have hb := B.bytes
  have hr := B.returns
  have hts := atoms_spec (ws := wsX3_byProduct) B.pre
  have hown : s.vm.findClass RX3 = some m.cls := findClass_of_methodNamed B.named
  have hlocks := B.notSynchronized
  subst hsz
  have hD := hD0.self (sz := s.heap.size)
  generalize hAe : va_A (mdW y a v) s.heap.size = A at hD ⊢
  have hA : ∀ q : Nat, s.heap.size ≤ q → A q := fun q h => by rw [← hAe]; exact Or.inr h
  have hS : va_S A s.heap s.heap [] := va_S.rf
  have hP : va_P G vwCl (mdW y a v) s.heap := hP
  have hl := lv_entry ([.ref (a 0), .int x, .int mo]) (n := 3) (Nat.le_of_ble_eq_true rfl)
  rw [lg_entry_eq]
  generalize (lg_sl ([.ref (a 0), .int x, .int mo]) ++ List.replicate (3 - (lg_sl ([.ref (a 0), .int x, .int mo])).length) Slot.unset).toArray = ls at hl ⊢
  have hin3 : ∀ w ∈ wsX30, w ∈ wsX3_byProduct := by decide +kernel
  have hl : lv_has ls 3 [(0, .ref (a 0)), (1, .int x), (2, .int mo)] := hl
  refine lv_aload_n hx hb dX3_byProduct_0 rfl (lv_at hl 0 rfl) ?_
  refine lv_iconst (v := 0) hx hb dX3_byProduct_1 (by decide) ?_
  refine mdS (v := v) (x := 0) hx hb hts hin3 hown hK hP hD hS 0 (by decide) (hts (.fieldLink RX3 63 "FundBookModel" "thrown" "I") (by decide +kernel)) dX3_byProduct_2 (fun H locs hP hD hS => ?_)
  refine lv_iload_n hx hb dX3_byProduct_5 rfl (lv_at hl 1 rfl) ?_
  refine lv_iconst (v := 0) hx hb dX3_byProduct_6 (by decide) ?_
  refine lv_iconst (v := 2) hx hb dX3_byProduct_7 (by decide) ?_
  refine caR (r := .int (mIn x 0 2)) (va_runS (As := [.int x, .int 0, .int 2]) (rest := []) ⟨hx, hb, hml, hown, hts⟩ (c_X3_in l x 0 2) (va_cwS 3 hts gX3_byProduct_X3_in rfl rfl rfl (by decide +kernel) ⟨Nat.le_of_ble_eq_true rfl, Nat.le_of_ble_eq_true rfl⟩) ⟨nP_bl, fun _ _ _ => ⟨rfl, trivial⟩⟩ rfl rfl hl.1 rfl (lv_room (Nat.le_of_ble_eq_true rfl)) dX3_byProduct_8 ⟨Nat.le_of_ble_eq_true rfl, Nat.le_of_ble_eq_true rfl⟩) ?_
  refine lv_if_eq (tgt := 35) hx hb dX3_byProduct_11 (by decide) (fun c_11 => ?_) (fun c_11 => ?_)
  · refine lv_aload_n hx hb dX3_byProduct_35 rfl (lv_at hl 0 rfl) ?_
    refine lv_iconst (v := 1) hx hb dX3_byProduct_36 (by decide) ?_
    refine caM (va_runV (As := [.int 1]) (rest := []) ⟨hx, hb, hml, hown, hts⟩ (c_X3_fails l G y a (u2 v 0 0 0) H.size 1) (cwV 1 hts gX3_byProduct_X3_fails rfl rfl rfl (by decide +kernel) ⟨Nat.le_of_ble_eq_true rfl, Nat.le_of_ble_eq_true rfl⟩) ⟨mP_bl, va_recv hK.1 hP (ci := 3) (q0 := 0) rfl rfl, fun U hU hW => ⟨rfl, by rw [hU], by rw [hU]; exact hP, Kb.moved hW hK, hD.weaken (fun _ _ _ _ => trivial)⟩⟩ rfl rfl hl.1 rfl (lv_room (Nat.le_of_ble_eq_true rfl)) dX3_byProduct_37 ⟨Nat.le_of_ble_eq_true rfl, Nat.le_of_ble_eq_true rfl⟩) hS (freeW hD hS hA) (freeW hD hS hA) (fun _ H locs _ hP hD _ _ hS => ?_)
    refine W.eq (g2 := F0 m 40 ls [.int 0]) rfl ?_
    have hP : va_P G vwCl (mdW y a (u2 (u2 v 0 0 0) 0 0 1)) H := hP
    have hD : va_D A (mdW y a (u2 (u2 v 0 0 0) 0 0 1)) := hD
    have ev : mPro v t x mo = ((u2 (u2 v 0 0 0) 0 0 1), 0) := by unfold mPro; exact (if_pos (Or.inl c_11))
    exact W.iret (v := 0) hx hb hr (fun t ht hW => ⟨⟨(), by rw [ev], trivial, by rw [ht, ev]; exact hP, by rw [ev]; exact hD⟩, hS.F ht⟩) hS.2.2 dX3_byProduct_40
  · refine lv_aload_n hx hb dX3_byProduct_14 rfl (lv_at hl 0 rfl) ?_
    refine lv_iload_n hx hb dX3_byProduct_15 rfl (lv_at hl 2 rfl) ?_
    refine caR (r := .int (mIn mo 0 (v 0 1 - 1))) (va_runV (As := [.int mo]) (rest := []) ⟨hx, hb, hml, hown, hts⟩ (c_X3_isEnded l G y a (u2 v 0 0 0) mo) (cwV 1 hts gX3_byProduct_X3_isEnded rfl rfl rfl (by decide +kernel) ⟨Nat.le_of_ble_eq_true rfl, Nat.le_of_ble_eq_true rfl⟩) ⟨rP_bl, va_recv hK.1 hP (ci := 3) (q0 := 0) rfl rfl, fun U hU hW => ⟨rfl, by rw [hU]; exact hP, Kb.moved hW hK⟩⟩ rfl rfl hl.1 rfl (lv_room (Nat.le_of_ble_eq_true rfl)) dX3_byProduct_16 ⟨Nat.le_of_ble_eq_true rfl, Nat.le_of_ble_eq_true rfl⟩) ?_
    refine lv_topE (z := mIn mo 0 (nI t - 1)) (by rw [ht]) ?_
    refine lv_if_eq (tgt := 35) hx hb dX3_byProduct_19 (by decide) (fun c_19 => ?_) (fun c_19 => ?_)
    · refine lv_aload_n hx hb dX3_byProduct_35 rfl (lv_at hl 0 rfl) ?_
      refine lv_iconst (v := 1) hx hb dX3_byProduct_36 (by decide) ?_
      refine caM (va_runV (As := [.int 1]) (rest := []) ⟨hx, hb, hml, hown, hts⟩ (c_X3_fails l G y a (u2 v 0 0 0) H.size 1) (cwV 1 hts gX3_byProduct_X3_fails rfl rfl rfl (by decide +kernel) ⟨Nat.le_of_ble_eq_true rfl, Nat.le_of_ble_eq_true rfl⟩) ⟨mP_bl, va_recv hK.1 hP (ci := 3) (q0 := 0) rfl rfl, fun U hU hW => ⟨rfl, by rw [hU], by rw [hU]; exact hP, Kb.moved hW hK, hD.weaken (fun _ _ _ _ => trivial)⟩⟩ rfl rfl hl.1 rfl (lv_room (Nat.le_of_ble_eq_true rfl)) dX3_byProduct_37 ⟨Nat.le_of_ble_eq_true rfl, Nat.le_of_ble_eq_true rfl⟩) hS (freeW hD hS hA) (freeW hD hS hA) (fun _ H locs _ hP hD _ _ hS => ?_)
      refine W.eq (g2 := F0 m 40 ls [.int 0]) rfl ?_
      have hP : va_P G vwCl (mdW y a (u2 (u2 v 0 0 0) 0 0 1)) H := hP
      have hD : va_D A (mdW y a (u2 (u2 v 0 0 0) 0 0 1)) := hD
      have ev : mPro v t x mo = ((u2 (u2 v 0 0 0) 0 0 1), 0) := by unfold mPro; exact (if_pos (Or.inr c_19))
      exact W.iret (v := 0) hx hb hr (fun t ht hW => ⟨⟨(), by rw [ev], trivial, by rw [ht, ev]; exact hP, by rw [ev]; exact hD⟩, hS.F ht⟩) hS.2.2 dX3_byProduct_40
    · obtain ⟨i, hi, rfl⟩ := inN (M := 2) c_11 (by decide)
      obtain ⟨j, hj, rfl⟩ := inL c_19 (by omega)
      refine lv_aload_n hx hb dX3_byProduct_22 rfl (lv_at hl 0 rfl) ?_
      refine mdG (v := (u2 v 0 0 0)) (val := .ref (a 19)) hx hb hts hin3 hown hK hP 19 (by decide) (hts (.fieldLink RX3 54 "FundBookModel" "products" "[I") (by decide +kernel)) rfl dX3_byProduct_23 ?_
      refine lv_iconst (v := 3) hx hb dX3_byProduct_26 (by decide) ?_
      refine lv_iload_n hx hb dX3_byProduct_27 rfl (lv_at hl 2 rfl) ?_
      refine lv_imul hx hb dX3_byProduct_28 ?_
      refine lv_iload_n hx hb dX3_byProduct_29 rfl (lv_at hl 1 rfl) ?_
      refine lv_iadd hx hb dX3_byProduct_30 ?_
      refine lv_topE (z := nI (3 * j + i)) (ix3) ?_
      refine ldI (f := v 19) hx hb hK hP 14 rfl (3 * j + i) rfl (by omega) (by decide) dX3_byProduct_31 ?_
      refine lv_goto (tgt := 40) hx hb dX3_byProduct_32 (by decide) ?_
      have ev : mPro v t (nI i) (nI j) = ((u2 v 0 0 0), v 19 (3 * j + i)) := by unfold mPro; rw [cnI (show i < 2 ^ 31 by omega), cnI (show j < 2 ^ 31 by omega)]; exact if_neg (fun q => q.elim c_11 c_19)
      exact W.iret (v := v 19 (3 * j + i)) hx hb hr (fun t ht hW => ⟨⟨(), by rw [ev], trivial, by rw [ht, ev]; exact hP, by rw [ev]; exact hD⟩, hS.F ht⟩) hS.2.2 dX3_byProduct_40
set_option maxHeartbeats 4000000 in
set_option maxRecDepth 100000 in
theorem c_X3_treasury (l : Launch) (G : va_G) (y : Nat → ClassId) (a : Nat → Nat) (v : MS) (sz : Nat) (mo : Int32) (t : Nat) (ht : v 0 1 = nI t) (ht47 : t ≤ 47) : Met l yX3_treasury wsX3_treasury ({ frames := 2, cells := 0, slots := 0, locals := 43 }) (mP G y [.ref (a 0), .int mo] (mdW y a v) sz) (mQ G (fun _ : Unit => some (.int (mTre v t mo).2)) (fun _ => True) (fun _ => mdW y a (mTre v t mo).1) (va_A (mdW y a v) sz)) 0 0 (va_A (mdW y a v) sz) := by
  refine Met.ofW (cc := cX3_treasury) (maxL := 2) (ret := (some .int)) (by decide) rfl ?_
  intro p e s m args below meth c s₁ B hml hv
  obtain ⟨rfl, hsz, hP, hK, hD0⟩ := hv
  have hx := B.exec
  have hb := B.bytes
  have hr := B.returns
  have hts := atoms_spec (ws := wsX3_treasury) B.pre
  have hown : s.vm.findClass RX3 = some m.cls := findClass_of_methodNamed B.named
  have hlocks := B.notSynchronized
  subst hsz
  have hD := hD0.self (sz := s.heap.size)
  generalize hAe : va_A (mdW y a v) s.heap.size = A at hD ⊢
  have hA : ∀ q : Nat, s.heap.size ≤ q → A q := fun q h => by rw [← hAe]; exact Or.inr h
  have hS : va_S A s.heap s.heap [] := va_S.rf
  have hP : va_P G vwCl (mdW y a v) s.heap := hP
  have hl := lv_entry ([.ref (a 0), .int mo]) (n := 2) (Nat.le_of_ble_eq_true rfl)
  rw [lg_entry_eq]
  generalize (lg_sl ([.ref (a 0), .int mo]) ++ List.replicate (2 - (lg_sl ([.ref (a 0), .int mo])).length) Slot.unset).toArray = ls at hl ⊢
  have hin3 : ∀ w ∈ wsX30, w ∈ wsX3_treasury := by decide +kernel
  have hl : lv_has ls 2 [(0, .ref (a 0)), (1, .int mo)] := hl
  refine lv_aload_n hx hb dX3_treasury_0 rfl (lv_at hl 0 rfl) ?_
  refine lv_iconst (v := 0) hx hb dX3_treasury_1 (by decide) ?_
  refine mdS (v := v) (x := 0) hx hb hts hin3 hown hK hP hD hS 0 (by decide) (hts (.fieldLink RX3 63 "FundBookModel" "thrown" "I") (by decide +kernel)) dX3_treasury_2 (fun H locs hP hD hS => ?_)
  refine lv_aload_n hx hb dX3_treasury_5 rfl (lv_at hl 0 rfl) ?_
  refine lv_iload_n hx hb dX3_treasury_6 rfl (lv_at hl 1 rfl) ?_
  refine caR (r := .int (mIn mo 0 (v 0 1 - 1))) (va_runV (As := [.int mo]) (rest := []) ⟨hx, hb, hml, hown, hts⟩ (c_X3_isEnded l G y a (u2 v 0 0 0) mo) (cwV 1 hts gX3_treasury_X3_isEnded rfl rfl rfl (by decide +kernel) ⟨Nat.le_of_ble_eq_true rfl, Nat.le_of_ble_eq_true rfl⟩) ⟨rP_bl, va_recv hK.1 hP (ci := 3) (q0 := 0) rfl rfl, fun U hU hW => ⟨rfl, by rw [hU]; exact hP, Kb.moved hW hK⟩⟩ rfl rfl hl.1 rfl (lv_room (Nat.le_of_ble_eq_true rfl)) dX3_treasury_7 ⟨Nat.le_of_ble_eq_true rfl, Nat.le_of_ble_eq_true rfl⟩) ?_
  refine lv_topE (z := mIn mo 0 (nI t - 1)) (by rw [ht]) ?_
  refine lv_if_eq (tgt := 22) hx hb dX3_treasury_10 (by decide) (fun c_10 => ?_) (fun c_10 => ?_)
  · refine lv_aload_n hx hb dX3_treasury_22 rfl (lv_at hl 0 rfl) ?_
    refine lv_iconst (v := 1) hx hb dX3_treasury_23 (by decide) ?_
    refine caM (va_runV (As := [.int 1]) (rest := []) ⟨hx, hb, hml, hown, hts⟩ (c_X3_fails l G y a (u2 v 0 0 0) H.size 1) (cwV 1 hts gX3_treasury_X3_fails rfl rfl rfl (by decide +kernel) ⟨Nat.le_of_ble_eq_true rfl, Nat.le_of_ble_eq_true rfl⟩) ⟨mP_bl, va_recv hK.1 hP (ci := 3) (q0 := 0) rfl rfl, fun U hU hW => ⟨rfl, by rw [hU], by rw [hU]; exact hP, Kb.moved hW hK, hD.weaken (fun _ _ _ _ => trivial)⟩⟩ rfl rfl hl.1 rfl (lv_room (Nat.le_of_ble_eq_true rfl)) dX3_treasury_24 ⟨Nat.le_of_ble_eq_true rfl, Nat.le_of_ble_eq_true rfl⟩) hS (freeW hD hS hA) (freeW hD hS hA) (fun _ H locs _ hP hD _ _ hS => ?_)
    refine W.eq (g2 := F0 m 27 ls [.int 0]) rfl ?_
    have hP : va_P G vwCl (mdW y a (u2 (u2 v 0 0 0) 0 0 1)) H := hP
    have hD : va_D A (mdW y a (u2 (u2 v 0 0 0) 0 0 1)) := hD
    have ev : mTre v t mo = ((u2 (u2 v 0 0 0) 0 0 1), 0) := by unfold mTre; exact (if_pos c_10)
    exact W.iret (v := 0) hx hb hr (fun t ht hW => ⟨⟨(), by rw [ev], trivial, by rw [ht, ev]; exact hP, by rw [ev]; exact hD⟩, hS.F ht⟩) hS.2.2 dX3_treasury_27
  · obtain ⟨j, hj, rfl⟩ := inL c_10 (by omega)
    refine lv_aload_n hx hb dX3_treasury_13 rfl (lv_at hl 0 rfl) ?_
    refine mdG (v := (u2 v 0 0 0)) (val := .ref (a 20)) hx hb hts hin3 hown hK hP 20 (by decide) (hts (.fieldLink RX3 57 "FundBookModel" "treasuries" "[I") (by decide +kernel)) rfl dX3_treasury_14 ?_
    refine lv_iload_n hx hb dX3_treasury_17 rfl (lv_at hl 1 rfl) ?_
    refine ldI (f := v 20) hx hb hK hP 15 rfl j rfl (by omega) (by decide) dX3_treasury_18 ?_
    refine lv_goto (tgt := 27) hx hb dX3_treasury_19 (by decide) ?_
    have ev : mTre v t (nI j) = ((u2 v 0 0 0), v 20 j) := by unfold mTre; rw [cnI (by omega)]; exact (if_neg c_10)
    exact W.iret (v := v 20 j) hx hb hr (fun t ht hW => ⟨⟨(), by rw [ev], trivial, by rw [ht, ev]; exact hP, by rw [ev]; exact hD⟩, hS.F ht⟩) hS.2.2 dX3_treasury_27
set_option maxHeartbeats 4000000 in
set_option maxRecDepth 100000 in
theorem c_X3_interest (l : Launch) (G : va_G) (y : Nat → ClassId) (a : Nat → Nat) (v : MS) (sz : Nat) (mo : Int32) (t : Nat) (ht : v 0 1 = nI t) (ht47 : t ≤ 47) : Met l yX3_interest wsX3_interest ({ frames := 2, cells := 0, slots := 0, locals := 43 }) (mP G y [.ref (a 0), .int mo] (mdW y a v) sz) (mQ G (fun _ : Unit => some (.int (mInt v t mo).2)) (fun _ => True) (fun _ => mdW y a (mInt v t mo).1) (va_A (mdW y a v) sz)) 0 0 (va_A (mdW y a v) sz) := by
  refine Met.ofW (cc := cX3_interest) (maxL := 2) (ret := (some .int)) (by decide) rfl ?_
  intro p e s m args below meth c s₁ B hml hv
  obtain ⟨rfl, hsz, hP, hK, hD0⟩ := hv
  have hx := B.exec
  have hb := B.bytes
  have hr := B.returns
  have hts := atoms_spec (ws := wsX3_interest) B.pre
  have hown : s.vm.findClass RX3 = some m.cls := findClass_of_methodNamed B.named
  have hlocks := B.notSynchronized
  subst hsz
  have hD := hD0.self (sz := s.heap.size)
  generalize hAe : va_A (mdW y a v) s.heap.size = A at hD ⊢
  have hA : ∀ q : Nat, s.heap.size ≤ q → A q := fun q h => by rw [← hAe]; exact Or.inr h
  have hS : va_S A s.heap s.heap [] := va_S.rf
  have hP : va_P G vwCl (mdW y a v) s.heap := hP
  have hl := lv_entry ([.ref (a 0), .int mo]) (n := 2) (Nat.le_of_ble_eq_true rfl)
  rw [lg_entry_eq]
  generalize (lg_sl ([.ref (a 0), .int mo]) ++ List.replicate (2 - (lg_sl ([.ref (a 0), .int mo])).length) Slot.unset).toArray = ls at hl ⊢
  have hin3 : ∀ w ∈ wsX30, w ∈ wsX3_interest := by decide +kernel
  have hl : lv_has ls 2 [(0, .ref (a 0)), (1, .int mo)] := hl
  refine lv_aload_n hx hb dX3_interest_0 rfl (lv_at hl 0 rfl) ?_
  refine lv_iconst (v := 0) hx hb dX3_interest_1 (by decide) ?_
  refine mdS (v := v) (x := 0) hx hb hts hin3 hown hK hP hD hS 0 (by decide) (hts (.fieldLink RX3 63 "FundBookModel" "thrown" "I") (by decide +kernel)) dX3_interest_2 (fun H locs hP hD hS => ?_)
  refine lv_aload_n hx hb dX3_interest_5 rfl (lv_at hl 0 rfl) ?_
  refine lv_iload_n hx hb dX3_interest_6 rfl (lv_at hl 1 rfl) ?_
  refine caR (r := .int (mIn mo 0 (v 0 1 - 1))) (va_runV (As := [.int mo]) (rest := []) ⟨hx, hb, hml, hown, hts⟩ (c_X3_isEnded l G y a (u2 v 0 0 0) mo) (cwV 1 hts gX3_interest_X3_isEnded rfl rfl rfl (by decide +kernel) ⟨Nat.le_of_ble_eq_true rfl, Nat.le_of_ble_eq_true rfl⟩) ⟨rP_bl, va_recv hK.1 hP (ci := 3) (q0 := 0) rfl rfl, fun U hU hW => ⟨rfl, by rw [hU]; exact hP, Kb.moved hW hK⟩⟩ rfl rfl hl.1 rfl (lv_room (Nat.le_of_ble_eq_true rfl)) dX3_interest_7 ⟨Nat.le_of_ble_eq_true rfl, Nat.le_of_ble_eq_true rfl⟩) ?_
  refine lv_topE (z := mIn mo 0 (nI t - 1)) (by rw [ht]) ?_
  refine lv_if_eq (tgt := 22) hx hb dX3_interest_10 (by decide) (fun c_10 => ?_) (fun c_10 => ?_)
  · refine lv_aload_n hx hb dX3_interest_22 rfl (lv_at hl 0 rfl) ?_
    refine lv_iconst (v := 1) hx hb dX3_interest_23 (by decide) ?_
    refine caM (va_runV (As := [.int 1]) (rest := []) ⟨hx, hb, hml, hown, hts⟩ (c_X3_fails l G y a (u2 v 0 0 0) H.size 1) (cwV 1 hts gX3_interest_X3_fails rfl rfl rfl (by decide +kernel) ⟨Nat.le_of_ble_eq_true rfl, Nat.le_of_ble_eq_true rfl⟩) ⟨mP_bl, va_recv hK.1 hP (ci := 3) (q0 := 0) rfl rfl, fun U hU hW => ⟨rfl, by rw [hU], by rw [hU]; exact hP, Kb.moved hW hK, hD.weaken (fun _ _ _ _ => trivial)⟩⟩ rfl rfl hl.1 rfl (lv_room (Nat.le_of_ble_eq_true rfl)) dX3_interest_24 ⟨Nat.le_of_ble_eq_true rfl, Nat.le_of_ble_eq_true rfl⟩) hS (freeW hD hS hA) (freeW hD hS hA) (fun _ H locs _ hP hD _ _ hS => ?_)
    refine W.eq (g2 := F0 m 27 ls [.int 0]) rfl ?_
    have hP : va_P G vwCl (mdW y a (u2 (u2 v 0 0 0) 0 0 1)) H := hP
    have hD : va_D A (mdW y a (u2 (u2 v 0 0 0) 0 0 1)) := hD
    have ev : mInt v t mo = ((u2 (u2 v 0 0 0) 0 0 1), 0) := by unfold mInt; exact (if_pos c_10)
    exact W.iret (v := 0) hx hb hr (fun t ht hW => ⟨⟨(), by rw [ev], trivial, by rw [ht, ev]; exact hP, by rw [ev]; exact hD⟩, hS.F ht⟩) hS.2.2 dX3_interest_27
  · obtain ⟨j, hj, rfl⟩ := inL c_10 (by omega)
    refine lv_aload_n hx hb dX3_interest_13 rfl (lv_at hl 0 rfl) ?_
    refine mdG (v := (u2 v 0 0 0)) (val := .ref (a 21)) hx hb hts hin3 hown hK hP 21 (by decide) (hts (.fieldLink RX3 60 "FundBookModel" "interests" "[I") (by decide +kernel)) rfl dX3_interest_14 ?_
    refine lv_iload_n hx hb dX3_interest_17 rfl (lv_at hl 1 rfl) ?_
    refine ldI (f := v 21) hx hb hK hP 16 rfl j rfl (by omega) (by decide) dX3_interest_18 ?_
    refine lv_goto (tgt := 27) hx hb dX3_interest_19 (by decide) ?_
    have ev : mInt v t (nI j) = ((u2 v 0 0 0), v 21 j) := by unfold mInt; rw [cnI (by omega)]; exact (if_neg c_10)
    exact W.iret (v := v 21 j) hx hb hr (fun t ht hW => ⟨⟨(), by rw [ev], trivial, by rw [ht, ev]; exact hP, by rw [ev]; exact hD⟩, hS.F ht⟩) hS.2.2 dX3_interest_27
end
section
/-! ===== the model's closeMonth (printed by a program of mine) ===== -/
set_option maxHeartbeats 4000000 in
set_option maxRecDepth 100000 in
theorem c_X3_closeMonth_1c (l : Launch) (G : va_G) (y : Nat → ClassId) (a : Nat → Nat) (v : MS) (n : Nat) (hn : v 0 6 = nI n) (hn24 : n ≤ 24) (t : Nat) (ht : v 0 1 = nI t) (ht47 : t ≤ 47) (bo : Nat → Nat) (hbo : ∀ l, l < n → v 12 l = nI (bo l) ∧ bo l ≤ t) (ht46 : t < 47) (hbr : ∀ l, l < n → v 7 l = nI (cn (v 7 l)) ∧ cn (v 7 l) < 3) (hpr : ∀ l, l < n → v 8 l = nI (cn (v 8 l)) ∧ cn (v 8 l) < 3) (k : Nat) (hk_k : k < n) (hb1 : cn (v 7 k) < 3) (hp1 : cn (v 8 k) < 3) {p : Program} {e : Env} {s : State} {m : MethodId} {args : Array Value} {below : List Frame} {meth : Method} {c : Code} {A : Nat → Prop} {H : Heap} {locs : List Loc} {ls : Array Slot} (hx : p.tables.exec = Jvm.exec) (hb : c.code = cX3_closeMonth) (hr : meth.sig.returnType = (some .int)) (hml : c.maxLocals = 4) (hown : s.vm.findClass RX3 = some m.cls) (hlocks : meth.locks = false) (hts : ∀ w ∈ wsX3_closeMonth, w.before args s = true) (hin3 : ∀ w ∈ wsX30, w ∈ wsX3_closeMonth) (hK : Kb G y s) (hA : ∀ q : Nat, s.heap.size ≤ q → A q) (hS : va_S A s.heap H locs) (hP : va_P G vwCl (mdW y a (u2 (u2 (mC1 (mT v 0) t k) 18 (3 * t + cn (v 7 k)) (((mC1 (mT v 0) t k) 18) (3 * t + cn (v 7 k)) + mBear v k 3)) 19 (3 * t + cn (v 8 k)) ((mC1 (mT v 0) t k) 19 (3 * t + cn (v 8 k)) + mBear v k 3))) H) (hD : va_D A (mdW y a (u2 (u2 (mC1 (mT v 0) t k) 18 (3 * t + cn (v 7 k)) (((mC1 (mT v 0) t k) 18) (3 * t + cn (v 7 k)) + mBear v k 3)) 19 (3 * t + cn (v 8 k)) ((mC1 (mT v 0) t k) 19 (3 * t + cn (v 8 k)) + mBear v k 3)))) (hl : lv_has ls 4 [(0, .ref (a 0)), (1, .int (S32 (fun j => mBear v j 1 + mBear v j 2) k)), (2, .int (S32 (fun j => mBear v j 0) k)), (3, .int (nI k))]) (ih_k : ∀ (H : Heap) (locs : List Loc) (ls : Array Slot), va_P G vwCl (mdW y a (mC1 (mT v 0) t (k + 1))) H → va_D A (mdW y a (mC1 (mT v 0) t (k + 1))) → va_S A s.heap H locs → lv_has ls 4 [(0, .ref (a 0)), (1, .int (S32 (fun j => mBear v j 1 + mBear v j 2) (k + 1))), (2, .int (S32 (fun j => mBear v j 0) (k + 1))), (3, .int (nI (k + 1)))] → W p l e (headSpec wsX3_closeMonth ({ frames := 2, cells := 0, slots := 0, locals := 52 })).room s m args below meth c H locs 0 0 (MQ below (mQ G (fun _ : Unit => some (.int (mClose v bo n t).2)) (fun _ => True) (fun _ => mdW y a (mClose v bo n t).1) A) args s 0 0 A) (F0 m 26 ls [])) : W p l e (headSpec wsX3_closeMonth ({ frames := 2, cells := 0, slots := 0, locals := 52 })).room s m args below meth c H locs 0 0 (MQ below (mQ G (fun _ : Unit => some (.int (mClose v bo n t).2)) (fun _ => True) (fun _ => mdW y a (mClose v bo n t).1) A) args s 0 0 A) (F0 m 88 ls []) := by
  refine lv_iload_n hx hb dX3_closeMonth_88 rfl (lv_at hl 1 rfl) ?_
  refine lv_aload_n hx hb dX3_closeMonth_89 rfl (lv_at hl 0 rfl) ?_
  refine lv_iload_n hx hb dX3_closeMonth_90 rfl (lv_at hl 3 rfl) ?_
  refine lv_iconst (v := 1) hx hb dX3_closeMonth_91 (by decide) ?_
  refine caR (r := .int (mBear (u2 (u2 (mC1 (mT v 0) t k) 18 (3 * t + cn (v 7 k)) (((mC1 (mT v 0) t k) 18) (3 * t + cn (v 7 k)) + mBear v k 3)) 19 (3 * t + cn (v 8 k)) ((mC1 (mT v 0) t k) 19 (3 * t + cn (v 8 k)) + mBear v k 3)) k 1)) (va_runV (As := [.int (nI k), .int 1]) (rest := [.int (S32 (fun j => mBear v j 1 + mBear v j 2) k)]) ⟨hx, hb, hml, hown, hts⟩ (c_X3_bear l G y a (u2 (u2 (mC1 (mT v 0) t k) 18 (3 * t + cn (v 7 k)) (((mC1 (mT v 0) t k) 18) (3 * t + cn (v 7 k)) + mBear v k 3)) 19 (3 * t + cn (v 8 k)) ((mC1 (mT v 0) t k) 19 (3 * t + cn (v 8 k)) + mBear v k 3)) k (by omega) 1) (cwV 2 hts gX3_closeMonth_X3_bear rfl rfl rfl (by decide +kernel) ⟨Nat.le_of_ble_eq_true rfl, Nat.le_of_ble_eq_true rfl⟩) ⟨rP_bl, va_recv hK.1 hP (ci := 3) (q0 := 0) rfl rfl, fun U hU hW => ⟨rfl, by rw [hU]; exact hP, Kb.moved hW hK⟩⟩ rfl rfl hl.1 rfl (lv_room (Nat.le_of_ble_eq_true rfl)) dX3_closeMonth_92 ⟨Nat.le_of_ble_eq_true rfl, Nat.le_of_ble_eq_true rfl⟩) ?_
  refine lv_topE (z := mBear v k 1) (mBear_c (by rw [u2_j (by decide), u2_j (by decide), mC1_o (by decide) (by decide)]; rfl) (by rw [u2_j (by decide), u2_j (by decide), mC1_o (by decide) (by decide)]; rfl) (by rw [u2_j (by decide), u2_j (by decide), mC1_o (by decide) (by decide)]; rfl) (by rw [u2_j (by decide), u2_j (by decide), mC1_o (by decide) (by decide)]; rfl) (by rw [u2_j (by decide), u2_j (by decide), mC1_o (by decide) (by decide)]; rfl)) ?_
  refine lv_aload_n hx hb dX3_closeMonth_95 rfl (lv_at hl 0 rfl) ?_
  refine lv_iload_n hx hb dX3_closeMonth_96 rfl (lv_at hl 3 rfl) ?_
  refine lv_iconst (v := 2) hx hb dX3_closeMonth_97 (by decide) ?_
  refine caR (r := .int (mBear (u2 (u2 (mC1 (mT v 0) t k) 18 (3 * t + cn (v 7 k)) (((mC1 (mT v 0) t k) 18) (3 * t + cn (v 7 k)) + mBear v k 3)) 19 (3 * t + cn (v 8 k)) ((mC1 (mT v 0) t k) 19 (3 * t + cn (v 8 k)) + mBear v k 3)) k 2)) (va_runV (As := [.int (nI k), .int 2]) (rest := [.int (mBear v k 1), .int (S32 (fun j => mBear v j 1 + mBear v j 2) k)]) ⟨hx, hb, hml, hown, hts⟩ (c_X3_bear l G y a (u2 (u2 (mC1 (mT v 0) t k) 18 (3 * t + cn (v 7 k)) (((mC1 (mT v 0) t k) 18) (3 * t + cn (v 7 k)) + mBear v k 3)) 19 (3 * t + cn (v 8 k)) ((mC1 (mT v 0) t k) 19 (3 * t + cn (v 8 k)) + mBear v k 3)) k (by omega) 2) (cwV 2 hts gX3_closeMonth_X3_bear rfl rfl rfl (by decide +kernel) ⟨Nat.le_of_ble_eq_true rfl, Nat.le_of_ble_eq_true rfl⟩) ⟨rP_bl, va_recv hK.1 hP (ci := 3) (q0 := 0) rfl rfl, fun U hU hW => ⟨rfl, by rw [hU]; exact hP, Kb.moved hW hK⟩⟩ rfl rfl hl.1 rfl (lv_room (Nat.le_of_ble_eq_true rfl)) dX3_closeMonth_98 ⟨Nat.le_of_ble_eq_true rfl, Nat.le_of_ble_eq_true rfl⟩) ?_
  refine lv_topE (z := mBear v k 2) (mBear_c (by rw [u2_j (by decide), u2_j (by decide), mC1_o (by decide) (by decide)]; rfl) (by rw [u2_j (by decide), u2_j (by decide), mC1_o (by decide) (by decide)]; rfl) (by rw [u2_j (by decide), u2_j (by decide), mC1_o (by decide) (by decide)]; rfl) (by rw [u2_j (by decide), u2_j (by decide), mC1_o (by decide) (by decide)]; rfl) (by rw [u2_j (by decide), u2_j (by decide), mC1_o (by decide) (by decide)]; rfl)) ?_
  refine lv_iadd hx hb dX3_closeMonth_101 ?_
  refine lv_iadd hx hb dX3_closeMonth_102 ?_
  refine lv_topE (z := S32 (fun j => mBear v j 1 + mBear v j 2) (k + 1)) (S32_s (f := fun j => mBear v j 1 + mBear v j 2)) ?_
  refine lv_istore_n (lv' := [(1, .int (S32 (fun j => mBear v j 1 + mBear v j 2) (k + 1))), (0, .ref (a 0)), (2, .int (S32 (fun j => mBear v j 0) k)), (3, .int (nI k))]) hx hb dX3_closeMonth_103 rfl hl (by decide) rfl (fun ls hl => ?_)
  refine lv_iload_n hx hb dX3_closeMonth_104 rfl (lv_at hl 2 rfl) ?_
  refine lv_aload_n hx hb dX3_closeMonth_105 rfl (lv_at hl 1 rfl) ?_
  refine lv_iload_n hx hb dX3_closeMonth_106 rfl (lv_at hl 3 rfl) ?_
  refine lv_iconst (v := 0) hx hb dX3_closeMonth_107 (by decide) ?_
  refine caR (r := .int (mBear (u2 (u2 (mC1 (mT v 0) t k) 18 (3 * t + cn (v 7 k)) (((mC1 (mT v 0) t k) 18) (3 * t + cn (v 7 k)) + mBear v k 3)) 19 (3 * t + cn (v 8 k)) ((mC1 (mT v 0) t k) 19 (3 * t + cn (v 8 k)) + mBear v k 3)) k 0)) (va_runV (As := [.int (nI k), .int 0]) (rest := [.int (S32 (fun j => mBear v j 0) k)]) ⟨hx, hb, hml, hown, hts⟩ (c_X3_bear l G y a (u2 (u2 (mC1 (mT v 0) t k) 18 (3 * t + cn (v 7 k)) (((mC1 (mT v 0) t k) 18) (3 * t + cn (v 7 k)) + mBear v k 3)) 19 (3 * t + cn (v 8 k)) ((mC1 (mT v 0) t k) 19 (3 * t + cn (v 8 k)) + mBear v k 3)) k (by omega) 0) (cwV 2 hts gX3_closeMonth_X3_bear rfl rfl rfl (by decide +kernel) ⟨Nat.le_of_ble_eq_true rfl, Nat.le_of_ble_eq_true rfl⟩) ⟨rP_bl, va_recv hK.1 hP (ci := 3) (q0 := 0) rfl rfl, fun U hU hW => ⟨rfl, by rw [hU]; exact hP, Kb.moved hW hK⟩⟩ rfl rfl hl.1 rfl (lv_room (Nat.le_of_ble_eq_true rfl)) dX3_closeMonth_108 ⟨Nat.le_of_ble_eq_true rfl, Nat.le_of_ble_eq_true rfl⟩) ?_
  refine lv_topE (z := mBear v k 0) (mBear_c (by rw [u2_j (by decide), u2_j (by decide), mC1_o (by decide) (by decide)]; rfl) (by rw [u2_j (by decide), u2_j (by decide), mC1_o (by decide) (by decide)]; rfl) (by rw [u2_j (by decide), u2_j (by decide), mC1_o (by decide) (by decide)]; rfl) (by rw [u2_j (by decide), u2_j (by decide), mC1_o (by decide) (by decide)]; rfl) (by rw [u2_j (by decide), u2_j (by decide), mC1_o (by decide) (by decide)]; rfl)) ?_
  refine lv_iadd hx hb dX3_closeMonth_111 ?_
  refine lv_topE (z := S32 (fun j => mBear v j 0) (k + 1)) (S32_s (f := fun j => mBear v j 0)) ?_
  refine lv_istore_n (lv' := [(2, .int (S32 (fun j => mBear v j 0) (k + 1))), (1, .int (S32 (fun j => mBear v j 1 + mBear v j 2) (k + 1))), (0, .ref (a 0)), (3, .int (nI k))]) hx hb dX3_closeMonth_112 rfl hl (by decide) rfl (fun ls hl => ?_)
  refine lv_iinc (v := (nI (k + 1))) (lv' := [(3, .int (nI (k + 1))), (2, .int (S32 (fun j => mBear v j 0) (k + 1))), (1, .int (S32 (fun j => mBear v j 1 + mBear v j 2) (k + 1))), (0, .ref (a 0))]) hx hb dX3_closeMonth_113 hl (k := 3) rfl iinc1 (by decide) rfl (fun ls hl => ?_)
  refine lv_goto (tgt := 26) hx hb dX3_closeMonth_116 (by decide) ?_
  have hP : va_P G vwCl (mdW y a (mC1 (mT v 0) t (k + 1))) H := by rw [mC1_T]; exact hP
  have hD : va_D A (mdW y a (mC1 (mT v 0) t (k + 1))) := by rw [mC1_T]; exact hD
  exact ih_k _ _ ls hP hD hS (lv_sub hl [3, 2, 1, 0] rfl)
set_option maxHeartbeats 4000000 in
set_option maxRecDepth 100000 in
theorem c_X3_closeMonth_1b (l : Launch) (G : va_G) (y : Nat → ClassId) (a : Nat → Nat) (v : MS) (n : Nat) (hn : v 0 6 = nI n) (hn24 : n ≤ 24) (t : Nat) (ht : v 0 1 = nI t) (ht47 : t ≤ 47) (bo : Nat → Nat) (hbo : ∀ l, l < n → v 12 l = nI (bo l) ∧ bo l ≤ t) (ht46 : t < 47) (hbr : ∀ l, l < n → v 7 l = nI (cn (v 7 l)) ∧ cn (v 7 l) < 3) (hpr : ∀ l, l < n → v 8 l = nI (cn (v 8 l)) ∧ cn (v 8 l) < 3) (k : Nat) (hk_k : k < n) (hb1 : cn (v 7 k) < 3) (hp1 : cn (v 8 k) < 3) {p : Program} {e : Env} {s : State} {m : MethodId} {args : Array Value} {below : List Frame} {meth : Method} {c : Code} {A : Nat → Prop} {H : Heap} {locs : List Loc} {ls : Array Slot} (hx : p.tables.exec = Jvm.exec) (hb : c.code = cX3_closeMonth) (hr : meth.sig.returnType = (some .int)) (hml : c.maxLocals = 4) (hown : s.vm.findClass RX3 = some m.cls) (hlocks : meth.locks = false) (hts : ∀ w ∈ wsX3_closeMonth, w.before args s = true) (hin3 : ∀ w ∈ wsX30, w ∈ wsX3_closeMonth) (hK : Kb G y s) (hA : ∀ q : Nat, s.heap.size ≤ q → A q) (hS : va_S A s.heap H locs) (hP : va_P G vwCl (mdW y a (u2 (mC1 (mT v 0) t k) 18 (3 * t + cn (v 7 k)) (((mC1 (mT v 0) t k) 18) (3 * t + cn (v 7 k)) + mBear v k 3))) H) (hD : va_D A (mdW y a (u2 (mC1 (mT v 0) t k) 18 (3 * t + cn (v 7 k)) (((mC1 (mT v 0) t k) 18) (3 * t + cn (v 7 k)) + mBear v k 3)))) (hl : lv_has ls 4 [(0, .ref (a 0)), (1, .int (S32 (fun j => mBear v j 1 + mBear v j 2) k)), (2, .int (S32 (fun j => mBear v j 0) k)), (3, .int (nI k))]) (ih_k : ∀ (H : Heap) (locs : List Loc) (ls : Array Slot), va_P G vwCl (mdW y a (mC1 (mT v 0) t (k + 1))) H → va_D A (mdW y a (mC1 (mT v 0) t (k + 1))) → va_S A s.heap H locs → lv_has ls 4 [(0, .ref (a 0)), (1, .int (S32 (fun j => mBear v j 1 + mBear v j 2) (k + 1))), (2, .int (S32 (fun j => mBear v j 0) (k + 1))), (3, .int (nI (k + 1)))] → W p l e (headSpec wsX3_closeMonth ({ frames := 2, cells := 0, slots := 0, locals := 52 })).room s m args below meth c H locs 0 0 (MQ below (mQ G (fun _ : Unit => some (.int (mClose v bo n t).2)) (fun _ => True) (fun _ => mdW y a (mClose v bo n t).1) A) args s 0 0 A) (F0 m 26 ls [])) : W p l e (headSpec wsX3_closeMonth ({ frames := 2, cells := 0, slots := 0, locals := 52 })).room s m args below meth c H locs 0 0 (MQ below (mQ G (fun _ : Unit => some (.int (mClose v bo n t).2)) (fun _ => True) (fun _ => mdW y a (mClose v bo n t).1) A) args s 0 0 A) (F0 m 61 ls []) := by
  refine lv_aload_n hx hb dX3_closeMonth_61 rfl (lv_at hl 0 rfl) ?_
  refine mdG (v := (u2 (mC1 (mT v 0) t k) 18 (3 * t + cn (v 7 k)) (((mC1 (mT v 0) t k) 18) (3 * t + cn (v 7 k)) + mBear v k 3))) (val := .ref (a 19)) hx hb hts hin3 hown hK hP 19 (by decide) (hts (.fieldLink RX3 54 "FundBookModel" "products" "[I") (by decide +kernel)) rfl dX3_closeMonth_62 ?_
  refine lv_iconst (v := 3) hx hb dX3_closeMonth_65 (by decide) ?_
  refine lv_aload_n hx hb dX3_closeMonth_66 rfl (lv_at hl 0 rfl) ?_
  refine mdG (v := (u2 (mC1 (mT v 0) t k) 18 (3 * t + cn (v 7 k)) (((mC1 (mT v 0) t k) 18) (3 * t + cn (v 7 k)) + mBear v k 3))) (val := .int ((u2 (mC1 (mT v 0) t k) 18 (3 * t + cn (v 7 k)) (((mC1 (mT v 0) t k) 18) (3 * t + cn (v 7 k)) + mBear v k 3)) 0 1)) hx hb hts hin3 hown hK hP 1 (by decide) (hts (.fieldLink RX3 73 "FundBookModel" "now" "I") (by decide +kernel)) rfl dX3_closeMonth_67 ?_
  refine lv_topE (z := nI t) (by rw [u2_j (by decide), mC1_o (by decide) (by decide)]; exact ht) ?_
  refine lv_imul hx hb dX3_closeMonth_70 ?_
  refine lv_aload_n hx hb dX3_closeMonth_71 rfl (lv_at hl 0 rfl) ?_
  refine mdG (v := (u2 (mC1 (mT v 0) t k) 18 (3 * t + cn (v 7 k)) (((mC1 (mT v 0) t k) 18) (3 * t + cn (v 7 k)) + mBear v k 3))) (val := .ref (a 8)) hx hb hts hin3 hown hK hP 8 (by decide) (hts (.fieldLink RX3 20 "FundBookModel" "product" "[I") (by decide +kernel)) rfl dX3_closeMonth_72 ?_
  refine lv_iload_n hx hb dX3_closeMonth_75 rfl (lv_at hl 3 rfl) ?_
  refine ldI (f := ((u2 (mC1 (mT v 0) t k) 18 (3 * t + cn (v 7 k)) (((mC1 (mT v 0) t k) 18) (3 * t + cn (v 7 k)) + mBear v k 3)) 8)) hx hb hK hP 3 mg_8 k rfl (by omega) (by decide) dX3_closeMonth_76 ?_
  refine lv_topE (z := nI (cn (v 8 k))) (by rw [u2_j (by decide), mC1_o (by decide) (by decide)]; exact (hpr k hk_k).1) ?_
  refine lv_iadd hx hb dX3_closeMonth_77 ?_
  refine lv_topE (z := nI (3 * t + cn (v 8 k))) (ix3) ?_
  refine lv_dup2_11 hx hb dX3_closeMonth_78 rfl rfl ?_
  refine ldI (f := ((u2 (mC1 (mT v 0) t k) 18 (3 * t + cn (v 7 k)) (((mC1 (mT v 0) t k) 18) (3 * t + cn (v 7 k)) + mBear v k 3)) 19)) hx hb hK hP 14 mg_19 (3 * t + cn (v 8 k)) rfl (by omega) (by decide) dX3_closeMonth_79 ?_
  refine lv_topE (z := (mC1 (mT v 0) t k) 19 (3 * t + cn (v 8 k))) (by rw [u2_j (by decide)]) ?_
  refine lv_aload_n hx hb dX3_closeMonth_80 rfl (lv_at hl 0 rfl) ?_
  refine lv_iload_n hx hb dX3_closeMonth_81 rfl (lv_at hl 3 rfl) ?_
  refine lv_iconst (v := 3) hx hb dX3_closeMonth_82 (by decide) ?_
  refine caR (r := .int (mBear (u2 (mC1 (mT v 0) t k) 18 (3 * t + cn (v 7 k)) (((mC1 (mT v 0) t k) 18) (3 * t + cn (v 7 k)) + mBear v k 3)) k 3)) (va_runV (As := [.int (nI k), .int 3]) (rest := [.int ((mC1 (mT v 0) t k) 19 (3 * t + cn (v 8 k))), .int (nI (3 * t + cn (v 8 k))), .ref (a 19)]) ⟨hx, hb, hml, hown, hts⟩ (c_X3_bear l G y a (u2 (mC1 (mT v 0) t k) 18 (3 * t + cn (v 7 k)) (((mC1 (mT v 0) t k) 18) (3 * t + cn (v 7 k)) + mBear v k 3)) k (by omega) 3) (cwV 2 hts gX3_closeMonth_X3_bear rfl rfl rfl (by decide +kernel) ⟨Nat.le_of_ble_eq_true rfl, Nat.le_of_ble_eq_true rfl⟩) ⟨rP_bl, va_recv hK.1 hP (ci := 3) (q0 := 0) rfl rfl, fun U hU hW => ⟨rfl, by rw [hU]; exact hP, Kb.moved hW hK⟩⟩ rfl rfl hl.1 rfl (lv_room (Nat.le_of_ble_eq_true rfl)) dX3_closeMonth_83 ⟨Nat.le_of_ble_eq_true rfl, Nat.le_of_ble_eq_true rfl⟩) ?_
  refine lv_topE (z := mBear v k 3) (mBear_c (by rw [u2_j (by decide), mC1_o (by decide) (by decide)]; rfl) (by rw [u2_j (by decide), mC1_o (by decide) (by decide)]; rfl) (by rw [u2_j (by decide), mC1_o (by decide) (by decide)]; rfl) (by rw [u2_j (by decide), mC1_o (by decide) (by decide)]; rfl) (by rw [u2_j (by decide), mC1_o (by decide) (by decide)]; rfl)) ?_
  refine lv_iadd hx hb dX3_closeMonth_86 ?_
  refine stI (f := (u2 (mC1 (mT v 0) t k) 18 (3 * t + cn (v 7 k)) (((mC1 (mT v 0) t k) 18) (3 * t + cn (v 7 k)) + mBear v k 3)) 19) (ws1 := mdW y a (u2 (u2 (mC1 (mT v 0) t k) 18 (3 * t + cn (v 7 k)) (((mC1 (mT v 0) t k) 18) (3 * t + cn (v 7 k)) + mBear v k 3)) 19 (3 * t + cn (v 8 k)) ((mC1 (mT v 0) t k) 19 (3 * t + cn (v 8 k)) + mBear v k 3))) hx hb hK hP hD hS 14 mg_19 (3 * t + cn (v 8 k)) rfl (by omega) (by decide) ms_19 dX3_closeMonth_87 (fun H locs hP hD hS => ?_)
  exact c_X3_closeMonth_1c l G y a v n hn hn24 t ht ht47 bo hbo ht46 hbr hpr k hk_k hb1 hp1 hx hb hr hml hown hlocks hts hin3 hK hA hS hP hD (lv_sub hl [0, 1, 2, 3] rfl) ih_k
set_option maxHeartbeats 4000000 in
set_option maxRecDepth 100000 in
theorem c_X3_closeMonth_1a (l : Launch) (G : va_G) (y : Nat → ClassId) (a : Nat → Nat) (v : MS) (n : Nat) (hn : v 0 6 = nI n) (hn24 : n ≤ 24) (t : Nat) (ht : v 0 1 = nI t) (ht47 : t ≤ 47) (bo : Nat → Nat) (hbo : ∀ l, l < n → v 12 l = nI (bo l) ∧ bo l ≤ t) (ht46 : t < 47) (hbr : ∀ l, l < n → v 7 l = nI (cn (v 7 l)) ∧ cn (v 7 l) < 3) (hpr : ∀ l, l < n → v 8 l = nI (cn (v 8 l)) ∧ cn (v 8 l) < 3) (k : Nat) (hk_k : k < n) (hb1 : cn (v 7 k) < 3) (hp1 : cn (v 8 k) < 3) {p : Program} {e : Env} {s : State} {m : MethodId} {args : Array Value} {below : List Frame} {meth : Method} {c : Code} {A : Nat → Prop} {H : Heap} {locs : List Loc} {ls : Array Slot} (hx : p.tables.exec = Jvm.exec) (hb : c.code = cX3_closeMonth) (hr : meth.sig.returnType = (some .int)) (hml : c.maxLocals = 4) (hown : s.vm.findClass RX3 = some m.cls) (hlocks : meth.locks = false) (hts : ∀ w ∈ wsX3_closeMonth, w.before args s = true) (hin3 : ∀ w ∈ wsX30, w ∈ wsX3_closeMonth) (hK : Kb G y s) (hA : ∀ q : Nat, s.heap.size ≤ q → A q) (hS : va_S A s.heap H locs) (hP : va_P G vwCl (mdW y a (mC1 (mT v 0) t k)) H) (hD : va_D A (mdW y a (mC1 (mT v 0) t k))) (hl : lv_has ls 4 [(0, .ref (a 0)), (1, .int (S32 (fun j => mBear v j 1 + mBear v j 2) k)), (2, .int (S32 (fun j => mBear v j 0) k)), (3, .int (nI k))]) (ih_k : ∀ (H : Heap) (locs : List Loc) (ls : Array Slot), va_P G vwCl (mdW y a (mC1 (mT v 0) t (k + 1))) H → va_D A (mdW y a (mC1 (mT v 0) t (k + 1))) → va_S A s.heap H locs → lv_has ls 4 [(0, .ref (a 0)), (1, .int (S32 (fun j => mBear v j 1 + mBear v j 2) (k + 1))), (2, .int (S32 (fun j => mBear v j 0) (k + 1))), (3, .int (nI (k + 1)))] → W p l e (headSpec wsX3_closeMonth ({ frames := 2, cells := 0, slots := 0, locals := 52 })).room s m args below meth c H locs 0 0 (MQ below (mQ G (fun _ : Unit => some (.int (mClose v bo n t).2)) (fun _ => True) (fun _ => mdW y a (mClose v bo n t).1) A) args s 0 0 A) (F0 m 26 ls [])) : W p l e (headSpec wsX3_closeMonth ({ frames := 2, cells := 0, slots := 0, locals := 52 })).room s m args below meth c H locs 0 0 (MQ below (mQ G (fun _ : Unit => some (.int (mClose v bo n t).2)) (fun _ => True) (fun _ => mdW y a (mClose v bo n t).1) A) args s 0 0 A) (F0 m 34 ls []) := by
  refine lv_aload_n hx hb dX3_closeMonth_34 rfl (lv_at hl 0 rfl) ?_
  refine mdG (v := (mC1 (mT v 0) t k)) (val := .ref (a 18)) hx hb hts hin3 hown hK hP 18 (by decide) (hts (.fieldLink RX3 51 "FundBookModel" "margins" "[I") (by decide +kernel)) rfl dX3_closeMonth_35 ?_
  refine lv_iconst (v := 3) hx hb dX3_closeMonth_38 (by decide) ?_
  refine lv_aload_n hx hb dX3_closeMonth_39 rfl (lv_at hl 0 rfl) ?_
  refine mdG (v := (mC1 (mT v 0) t k)) (val := .int ((mC1 (mT v 0) t k) 0 1)) hx hb hts hin3 hown hK hP 1 (by decide) (hts (.fieldLink RX3 73 "FundBookModel" "now" "I") (by decide +kernel)) rfl dX3_closeMonth_40 ?_
  refine lv_topE (z := nI t) (by rw [mC1_o (by decide) (by decide)]; exact ht) ?_
  refine lv_imul hx hb dX3_closeMonth_43 ?_
  refine lv_aload_n hx hb dX3_closeMonth_44 rfl (lv_at hl 0 rfl) ?_
  refine mdG (v := (mC1 (mT v 0) t k)) (val := .ref (a 7)) hx hb hts hin3 hown hK hP 7 (by decide) (hts (.fieldLink RX3 17 "FundBookModel" "branch" "[I") (by decide +kernel)) rfl dX3_closeMonth_45 ?_
  refine lv_iload_n hx hb dX3_closeMonth_48 rfl (lv_at hl 3 rfl) ?_
  refine ldI (f := ((mC1 (mT v 0) t k) 7)) hx hb hK hP 2 mg_7 k rfl (by omega) (by decide) dX3_closeMonth_49 ?_
  refine lv_topE (z := nI (cn (v 7 k))) (by rw [mC1_o (by decide) (by decide)]; exact (hbr k hk_k).1) ?_
  refine lv_iadd hx hb dX3_closeMonth_50 ?_
  refine lv_topE (z := nI (3 * t + cn (v 7 k))) (ix3) ?_
  refine lv_dup2_11 hx hb dX3_closeMonth_51 rfl rfl ?_
  refine ldI (f := ((mC1 (mT v 0) t k) 18)) hx hb hK hP 13 mg_18 (3 * t + cn (v 7 k)) rfl (by omega) (by decide) dX3_closeMonth_52 ?_
  refine lv_aload_n hx hb dX3_closeMonth_53 rfl (lv_at hl 0 rfl) ?_
  refine lv_iload_n hx hb dX3_closeMonth_54 rfl (lv_at hl 3 rfl) ?_
  refine lv_iconst (v := 3) hx hb dX3_closeMonth_55 (by decide) ?_
  refine caR (r := .int (mBear (mC1 (mT v 0) t k) k 3)) (va_runV (As := [.int (nI k), .int 3]) (rest := [.int (((mC1 (mT v 0) t k) 18) (3 * t + cn (v 7 k))), .int (nI (3 * t + cn (v 7 k))), .ref (a 18)]) ⟨hx, hb, hml, hown, hts⟩ (c_X3_bear l G y a (mC1 (mT v 0) t k) k (by omega) 3) (cwV 2 hts gX3_closeMonth_X3_bear rfl rfl rfl (by decide +kernel) ⟨Nat.le_of_ble_eq_true rfl, Nat.le_of_ble_eq_true rfl⟩) ⟨rP_bl, va_recv hK.1 hP (ci := 3) (q0 := 0) rfl rfl, fun U hU hW => ⟨rfl, by rw [hU]; exact hP, Kb.moved hW hK⟩⟩ rfl rfl hl.1 rfl (lv_room (Nat.le_of_ble_eq_true rfl)) dX3_closeMonth_56 ⟨Nat.le_of_ble_eq_true rfl, Nat.le_of_ble_eq_true rfl⟩) ?_
  refine lv_topE (z := mBear v k 3) (mBear_c (by rw [mC1_o (by decide) (by decide)]; rfl) (by rw [mC1_o (by decide) (by decide)]; rfl) (by rw [mC1_o (by decide) (by decide)]; rfl) (by rw [mC1_o (by decide) (by decide)]; rfl) (by rw [mC1_o (by decide) (by decide)]; rfl)) ?_
  refine lv_iadd hx hb dX3_closeMonth_59 ?_
  refine stI (f := (mC1 (mT v 0) t k) 18) (ws1 := mdW y a (u2 (mC1 (mT v 0) t k) 18 (3 * t + cn (v 7 k)) (((mC1 (mT v 0) t k) 18) (3 * t + cn (v 7 k)) + mBear v k 3))) hx hb hK hP hD hS 13 mg_18 (3 * t + cn (v 7 k)) rfl (by omega) (by decide) ms_18 dX3_closeMonth_60 (fun H locs hP hD hS => ?_)
  exact c_X3_closeMonth_1b l G y a v n hn hn24 t ht ht47 bo hbo ht46 hbr hpr k hk_k hb1 hp1 hx hb hr hml hown hlocks hts hin3 hK hA hS hP hD (lv_sub hl [0, 1, 2, 3] rfl) ih_k
set_option maxHeartbeats 4000000 in
set_option maxRecDepth 100000 in
theorem c_X3_closeMonth_2b (l : Launch) (G : va_G) (y : Nat → ClassId) (a : Nat → Nat) (v : MS) (n : Nat) (hn : v 0 6 = nI n) (hn24 : n ≤ 24) (t : Nat) (ht : v 0 1 = nI t) (ht47 : t ≤ 47) (bo : Nat → Nat) (hbo : ∀ l, l < n → v 12 l = nI (bo l) ∧ bo l ≤ t) (ht46 : t < 47) (b : Nat) (hk_b : b < 3) {p : Program} {e : Env} {s : State} {m : MethodId} {args : Array Value} {below : List Frame} {meth : Method} {c : Code} {A : Nat → Prop} {H : Heap} {locs : List Loc} {ls : Array Slot} (hx : p.tables.exec = Jvm.exec) (hb : c.code = cX3_closeMonth) (hr : meth.sig.returnType = (some .int)) (hml : c.maxLocals = 4) (hown : s.vm.findClass RX3 = some m.cls) (hlocks : meth.locks = false) (hts : ∀ w ∈ wsX3_closeMonth, w.before args s = true) (hin3 : ∀ w ∈ wsX30, w ∈ wsX3_closeMonth) (hK : Kb G y s) (hA : ∀ q : Nat, s.heap.size ≤ q → A q) (hS : va_S A s.heap H locs) (hP : va_P G vwCl (mdW y a (u2 (mC2 (mC1 (mT v 0) t n) v t b) 18 (3 * t + b) (((mC2 (mC1 (mT v 0) t n) v t b) 18) (3 * t + b) + (mPaid v b - mPays v b)))) H) (hD : va_D A (mdW y a (u2 (mC2 (mC1 (mT v 0) t n) v t b) 18 (3 * t + b) (((mC2 (mC1 (mT v 0) t n) v t b) 18) (3 * t + b) + (mPaid v b - mPays v b))))) (hl : lv_has ls 4 [(0, .ref (a 0)), (1, .int (D32 (S32 (fun j => mBear v j 1 + mBear v j 2) n) (fun j => mPaid v j) b)), (2, .int (D32 (S32 (fun j => mBear v j 0) n) (fun j => mPays v j) b)), (3, .int (nI b))]) (ih_b : ∀ (H : Heap) (locs : List Loc) (ls : Array Slot), va_P G vwCl (mdW y a (mC2 (mC1 (mT v 0) t n) v t (b + 1))) H → va_D A (mdW y a (mC2 (mC1 (mT v 0) t n) v t (b + 1))) → va_S A s.heap H locs → lv_has ls 4 [(0, .ref (a 0)), (1, .int (D32 (S32 (fun j => mBear v j 1 + mBear v j 2) n) (fun j => mPaid v j) (b + 1))), (2, .int (D32 (S32 (fun j => mBear v j 0) n) (fun j => mPays v j) (b + 1))), (3, .int (nI (b + 1)))] → W p l e (headSpec wsX3_closeMonth ({ frames := 2, cells := 0, slots := 0, locals := 52 })).room s m args below meth c H locs 0 0 (MQ below (mQ G (fun _ : Unit => some (.int (mClose v bo n t).2)) (fun _ => True) (fun _ => mdW y a (mClose v bo n t).1) A) args s 0 0 A) (F0 m 121 ls [])) : W p l e (headSpec wsX3_closeMonth ({ frames := 2, cells := 0, slots := 0, locals := 52 })).room s m args below meth c H locs 0 0 (MQ below (mQ G (fun _ : Unit => some (.int (mClose v bo n t).2)) (fun _ => True) (fun _ => mdW y a (mClose v bo n t).1) A) args s 0 0 A) (F0 m 153 ls []) := by
  refine lv_iload_n hx hb dX3_closeMonth_153 rfl (lv_at hl 1 rfl) ?_
  refine lv_aload_n hx hb dX3_closeMonth_154 rfl (lv_at hl 0 rfl) ?_
  refine lv_iload_n hx hb dX3_closeMonth_155 rfl (lv_at hl 3 rfl) ?_
  refine caR (r := .int (mPaid (u2 (mC2 (mC1 (mT v 0) t n) v t b) 18 (3 * t + b) (((mC2 (mC1 (mT v 0) t n) v t b) 18) (3 * t + b) + (mPaid v b - mPays v b))) b)) (va_runV (As := [.int (nI b)]) (rest := [.int (D32 (S32 (fun j => mBear v j 1 + mBear v j 2) n) (fun j => mPaid v j) b)]) ⟨hx, hb, hml, hown, hts⟩ (c_X3_isPaid l G y a (u2 (mC2 (mC1 (mT v 0) t n) v t b) 18 (3 * t + b) (((mC2 (mC1 (mT v 0) t n) v t b) 18) (3 * t + b) + (mPaid v b - mPays v b))) b hk_b) (cwV 1 hts gX3_closeMonth_X3_isPaid rfl rfl rfl (by decide +kernel) ⟨Nat.le_of_ble_eq_true rfl, Nat.le_of_ble_eq_true rfl⟩) ⟨rP_bl, va_recv hK.1 hP (ci := 3) (q0 := 0) rfl rfl, fun U hU hW => ⟨rfl, by rw [hU]; exact hP, Kb.moved hW hK⟩⟩ rfl rfl hl.1 rfl (lv_room (Nat.le_of_ble_eq_true rfl)) dX3_closeMonth_156 ⟨Nat.le_of_ble_eq_true rfl, Nat.le_of_ble_eq_true rfl⟩) ?_
  refine lv_topE (z := mPaid v b) (mPaid_c (by rw [u2_j (by decide), mC2_o (by decide), mC1_o (by decide) (by decide)]; rfl) (by rw [u2_j (by decide), mC2_o (by decide), mC1_o (by decide) (by decide)]; rfl) (by rw [u2_j (by decide), mC2_o (by decide), mC1_o (by decide) (by decide)]; rfl) (by rw [u2_j (by decide), mC2_o (by decide), mC1_o (by decide) (by decide)]; rfl) (by rw [u2_j (by decide), mC2_o (by decide), mC1_o (by decide) (by decide)]; rfl)) ?_
  refine lv_isub hx hb dX3_closeMonth_159 ?_
  refine lv_topE (z := D32 (S32 (fun j => mBear v j 1 + mBear v j 2) n) (fun j => mPaid v j) (b + 1)) (D32_s (f := fun j => mPaid v j)) ?_
  refine lv_istore_n (lv' := [(1, .int (D32 (S32 (fun j => mBear v j 1 + mBear v j 2) n) (fun j => mPaid v j) (b + 1))), (0, .ref (a 0)), (2, .int (D32 (S32 (fun j => mBear v j 0) n) (fun j => mPays v j) b)), (3, .int (nI b))]) hx hb dX3_closeMonth_160 rfl hl (by decide) rfl (fun ls hl => ?_)
  refine lv_iload_n hx hb dX3_closeMonth_161 rfl (lv_at hl 2 rfl) ?_
  refine lv_aload_n hx hb dX3_closeMonth_162 rfl (lv_at hl 1 rfl) ?_
  refine lv_iload_n hx hb dX3_closeMonth_163 rfl (lv_at hl 3 rfl) ?_
  refine caR (r := .int (mPays (u2 (mC2 (mC1 (mT v 0) t n) v t b) 18 (3 * t + b) (((mC2 (mC1 (mT v 0) t n) v t b) 18) (3 * t + b) + (mPaid v b - mPays v b))) b)) (va_runV (As := [.int (nI b)]) (rest := [.int (D32 (S32 (fun j => mBear v j 0) n) (fun j => mPays v j) b)]) ⟨hx, hb, hml, hown, hts⟩ (c_X3_pays l G y a (u2 (mC2 (mC1 (mT v 0) t n) v t b) 18 (3 * t + b) (((mC2 (mC1 (mT v 0) t n) v t b) 18) (3 * t + b) + (mPaid v b - mPays v b))) b hk_b) (cwV 1 hts gX3_closeMonth_X3_pays rfl rfl rfl (by decide +kernel) ⟨Nat.le_of_ble_eq_true rfl, Nat.le_of_ble_eq_true rfl⟩) ⟨rP_bl, va_recv hK.1 hP (ci := 3) (q0 := 0) rfl rfl, fun U hU hW => ⟨rfl, by rw [hU]; exact hP, Kb.moved hW hK⟩⟩ rfl rfl hl.1 rfl (lv_room (Nat.le_of_ble_eq_true rfl)) dX3_closeMonth_164 ⟨Nat.le_of_ble_eq_true rfl, Nat.le_of_ble_eq_true rfl⟩) ?_
  refine lv_topE (z := mPays v b) (mPays_c (by rw [u2_j (by decide), mC2_o (by decide), mC1_o (by decide) (by decide)]; rfl) (by rw [u2_j (by decide), mC2_o (by decide), mC1_o (by decide) (by decide)]; rfl)) ?_
  refine lv_isub hx hb dX3_closeMonth_167 ?_
  refine lv_topE (z := D32 (S32 (fun j => mBear v j 0) n) (fun j => mPays v j) (b + 1)) (D32_s (f := fun j => mPays v j)) ?_
  refine lv_istore_n (lv' := [(2, .int (D32 (S32 (fun j => mBear v j 0) n) (fun j => mPays v j) (b + 1))), (1, .int (D32 (S32 (fun j => mBear v j 1 + mBear v j 2) n) (fun j => mPaid v j) (b + 1))), (0, .ref (a 0)), (3, .int (nI b))]) hx hb dX3_closeMonth_168 rfl hl (by decide) rfl (fun ls hl => ?_)
  refine lv_iinc (v := (nI (b + 1))) (lv' := [(3, .int (nI (b + 1))), (2, .int (D32 (S32 (fun j => mBear v j 0) n) (fun j => mPays v j) (b + 1))), (1, .int (D32 (S32 (fun j => mBear v j 1 + mBear v j 2) n) (fun j => mPaid v j) (b + 1))), (0, .ref (a 0))]) hx hb dX3_closeMonth_169 hl (k := 3) rfl iinc1 (by decide) rfl (fun ls hl => ?_)
  refine lv_goto (tgt := 121) hx hb dX3_closeMonth_172 (by decide) ?_
  have hP : va_P G vwCl (mdW y a (mC2 (mC1 (mT v 0) t n) v t (b + 1))) H := by rw [mC2]; exact hP
  have hD : va_D A (mdW y a (mC2 (mC1 (mT v 0) t n) v t (b + 1))) := by rw [mC2]; exact hD
  exact ih_b _ _ ls hP hD hS (lv_sub hl [3, 2, 1, 0] rfl)
set_option maxHeartbeats 4000000 in
set_option maxRecDepth 100000 in
theorem c_X3_closeMonth_2a (l : Launch) (G : va_G) (y : Nat → ClassId) (a : Nat → Nat) (v : MS) (n : Nat) (hn : v 0 6 = nI n) (hn24 : n ≤ 24) (t : Nat) (ht : v 0 1 = nI t) (ht47 : t ≤ 47) (bo : Nat → Nat) (hbo : ∀ l, l < n → v 12 l = nI (bo l) ∧ bo l ≤ t) (ht46 : t < 47) (b : Nat) (hk_b : b < 3) {p : Program} {e : Env} {s : State} {m : MethodId} {args : Array Value} {below : List Frame} {meth : Method} {c : Code} {A : Nat → Prop} {H : Heap} {locs : List Loc} {ls : Array Slot} (hx : p.tables.exec = Jvm.exec) (hb : c.code = cX3_closeMonth) (hr : meth.sig.returnType = (some .int)) (hml : c.maxLocals = 4) (hown : s.vm.findClass RX3 = some m.cls) (hlocks : meth.locks = false) (hts : ∀ w ∈ wsX3_closeMonth, w.before args s = true) (hin3 : ∀ w ∈ wsX30, w ∈ wsX3_closeMonth) (hK : Kb G y s) (hA : ∀ q : Nat, s.heap.size ≤ q → A q) (hS : va_S A s.heap H locs) (hP : va_P G vwCl (mdW y a (mC2 (mC1 (mT v 0) t n) v t b)) H) (hD : va_D A (mdW y a (mC2 (mC1 (mT v 0) t n) v t b))) (hl : lv_has ls 4 [(0, .ref (a 0)), (1, .int (D32 (S32 (fun j => mBear v j 1 + mBear v j 2) n) (fun j => mPaid v j) b)), (2, .int (D32 (S32 (fun j => mBear v j 0) n) (fun j => mPays v j) b)), (3, .int (nI b))]) (ih_b : ∀ (H : Heap) (locs : List Loc) (ls : Array Slot), va_P G vwCl (mdW y a (mC2 (mC1 (mT v 0) t n) v t (b + 1))) H → va_D A (mdW y a (mC2 (mC1 (mT v 0) t n) v t (b + 1))) → va_S A s.heap H locs → lv_has ls 4 [(0, .ref (a 0)), (1, .int (D32 (S32 (fun j => mBear v j 1 + mBear v j 2) n) (fun j => mPaid v j) (b + 1))), (2, .int (D32 (S32 (fun j => mBear v j 0) n) (fun j => mPays v j) (b + 1))), (3, .int (nI (b + 1)))] → W p l e (headSpec wsX3_closeMonth ({ frames := 2, cells := 0, slots := 0, locals := 52 })).room s m args below meth c H locs 0 0 (MQ below (mQ G (fun _ : Unit => some (.int (mClose v bo n t).2)) (fun _ => True) (fun _ => mdW y a (mClose v bo n t).1) A) args s 0 0 A) (F0 m 121 ls [])) : W p l e (headSpec wsX3_closeMonth ({ frames := 2, cells := 0, slots := 0, locals := 52 })).room s m args below meth c H locs 0 0 (MQ below (mQ G (fun _ : Unit => some (.int (mClose v bo n t).2)) (fun _ => True) (fun _ => mdW y a (mClose v bo n t).1) A) args s 0 0 A) (F0 m 126 ls []) := by
  refine lv_aload_n hx hb dX3_closeMonth_126 rfl (lv_at hl 0 rfl) ?_
  refine mdG (v := (mC2 (mC1 (mT v 0) t n) v t b)) (val := .ref (a 18)) hx hb hts hin3 hown hK hP 18 (by decide) (hts (.fieldLink RX3 51 "FundBookModel" "margins" "[I") (by decide +kernel)) rfl dX3_closeMonth_127 ?_
  refine lv_iconst (v := 3) hx hb dX3_closeMonth_130 (by decide) ?_
  refine lv_aload_n hx hb dX3_closeMonth_131 rfl (lv_at hl 0 rfl) ?_
  refine mdG (v := (mC2 (mC1 (mT v 0) t n) v t b)) (val := .int ((mC2 (mC1 (mT v 0) t n) v t b) 0 1)) hx hb hts hin3 hown hK hP 1 (by decide) (hts (.fieldLink RX3 73 "FundBookModel" "now" "I") (by decide +kernel)) rfl dX3_closeMonth_132 ?_
  refine lv_topE (z := nI t) (by rw [mC2_o (by decide), mC1_o (by decide) (by decide)]; exact ht) ?_
  refine lv_imul hx hb dX3_closeMonth_135 ?_
  refine lv_iload_n hx hb dX3_closeMonth_136 rfl (lv_at hl 3 rfl) ?_
  refine lv_iadd hx hb dX3_closeMonth_137 ?_
  refine lv_topE (z := nI (3 * t + b)) (ix3) ?_
  refine lv_dup2_11 hx hb dX3_closeMonth_138 rfl rfl ?_
  refine ldI (f := ((mC2 (mC1 (mT v 0) t n) v t b) 18)) hx hb hK hP 13 mg_18 (3 * t + b) rfl (by omega) (by decide) dX3_closeMonth_139 ?_
  refine lv_aload_n hx hb dX3_closeMonth_140 rfl (lv_at hl 0 rfl) ?_
  refine lv_iload_n hx hb dX3_closeMonth_141 rfl (lv_at hl 3 rfl) ?_
  refine caR (r := .int (mPaid (mC2 (mC1 (mT v 0) t n) v t b) b)) (va_runV (As := [.int (nI b)]) (rest := [.int (((mC2 (mC1 (mT v 0) t n) v t b) 18) (3 * t + b)), .int (nI (3 * t + b)), .ref (a 18)]) ⟨hx, hb, hml, hown, hts⟩ (c_X3_isPaid l G y a (mC2 (mC1 (mT v 0) t n) v t b) b hk_b) (cwV 1 hts gX3_closeMonth_X3_isPaid rfl rfl rfl (by decide +kernel) ⟨Nat.le_of_ble_eq_true rfl, Nat.le_of_ble_eq_true rfl⟩) ⟨rP_bl, va_recv hK.1 hP (ci := 3) (q0 := 0) rfl rfl, fun U hU hW => ⟨rfl, by rw [hU]; exact hP, Kb.moved hW hK⟩⟩ rfl rfl hl.1 rfl (lv_room (Nat.le_of_ble_eq_true rfl)) dX3_closeMonth_142 ⟨Nat.le_of_ble_eq_true rfl, Nat.le_of_ble_eq_true rfl⟩) ?_
  refine lv_topE (z := mPaid v b) (mPaid_c (by rw [mC2_o (by decide), mC1_o (by decide) (by decide)]; rfl) (by rw [mC2_o (by decide), mC1_o (by decide) (by decide)]; rfl) (by rw [mC2_o (by decide), mC1_o (by decide) (by decide)]; rfl) (by rw [mC2_o (by decide), mC1_o (by decide) (by decide)]; rfl) (by rw [mC2_o (by decide), mC1_o (by decide) (by decide)]; rfl)) ?_
  refine lv_aload_n hx hb dX3_closeMonth_145 rfl (lv_at hl 0 rfl) ?_
  refine lv_iload_n hx hb dX3_closeMonth_146 rfl (lv_at hl 3 rfl) ?_
  refine caR (r := .int (mPays (mC2 (mC1 (mT v 0) t n) v t b) b)) (va_runV (As := [.int (nI b)]) (rest := [.int (mPaid v b), .int (((mC2 (mC1 (mT v 0) t n) v t b) 18) (3 * t + b)), .int (nI (3 * t + b)), .ref (a 18)]) ⟨hx, hb, hml, hown, hts⟩ (c_X3_pays l G y a (mC2 (mC1 (mT v 0) t n) v t b) b hk_b) (cwV 1 hts gX3_closeMonth_X3_pays rfl rfl rfl (by decide +kernel) ⟨Nat.le_of_ble_eq_true rfl, Nat.le_of_ble_eq_true rfl⟩) ⟨rP_bl, va_recv hK.1 hP (ci := 3) (q0 := 0) rfl rfl, fun U hU hW => ⟨rfl, by rw [hU]; exact hP, Kb.moved hW hK⟩⟩ rfl rfl hl.1 rfl (lv_room (Nat.le_of_ble_eq_true rfl)) dX3_closeMonth_147 ⟨Nat.le_of_ble_eq_true rfl, Nat.le_of_ble_eq_true rfl⟩) ?_
  refine lv_topE (z := mPays v b) (mPays_c (by rw [mC2_o (by decide), mC1_o (by decide) (by decide)]; rfl) (by rw [mC2_o (by decide), mC1_o (by decide) (by decide)]; rfl)) ?_
  refine lv_isub hx hb dX3_closeMonth_150 ?_
  refine lv_iadd hx hb dX3_closeMonth_151 ?_
  refine stI (f := (mC2 (mC1 (mT v 0) t n) v t b) 18) (ws1 := mdW y a (u2 (mC2 (mC1 (mT v 0) t n) v t b) 18 (3 * t + b) (((mC2 (mC1 (mT v 0) t n) v t b) 18) (3 * t + b) + (mPaid v b - mPays v b)))) hx hb hK hP hD hS 13 mg_18 (3 * t + b) rfl (by omega) (by decide) ms_18 dX3_closeMonth_152 (fun H locs hP hD hS => ?_)
  exact c_X3_closeMonth_2b l G y a v n hn hn24 t ht ht47 bo hbo ht46 b hk_b hx hb hr hml hown hlocks hts hin3 hK hA hS hP hD (lv_sub hl [0, 1, 2, 3] rfl) ih_b
set_option maxHeartbeats 4000000 in
set_option maxRecDepth 100000 in
theorem c_X3_closeMonth_3 (l : Launch) (G : va_G) (y : Nat → ClassId) (a : Nat → Nat) (v : MS) (n : Nat) (hn : v 0 6 = nI n) (hn24 : n ≤ 24) (t : Nat) (ht : v 0 1 = nI t) (ht47 : t ≤ 47) (bo : Nat → Nat) (hbo : ∀ l, l < n → v 12 l = nI (bo l) ∧ bo l ≤ t) (ht46 : t < 47) {p : Program} {e : Env} {s : State} {m : MethodId} {args : Array Value} {below : List Frame} {meth : Method} {c : Code} {A : Nat → Prop} {H : Heap} {locs : List Loc} {ls : Array Slot} (hx : p.tables.exec = Jvm.exec) (hb : c.code = cX3_closeMonth) (hr : meth.sig.returnType = (some .int)) (hml : c.maxLocals = 4) (hown : s.vm.findClass RX3 = some m.cls) (hlocks : meth.locks = false) (hts : ∀ w ∈ wsX3_closeMonth, w.before args s = true) (hin3 : ∀ w ∈ wsX30, w ∈ wsX3_closeMonth) (hK : Kb G y s) (hA : ∀ q : Nat, s.heap.size ≤ q → A q) (hS : va_S A s.heap H locs) (hP : va_P G vwCl (mdW y a (u2 (u2 (mC2 (mC1 (mT v 0) t n) v t 3) 20 t (D32 (S32 (fun j => mBear v j 1 + mBear v j 2) n) (fun j => mPaid v j) 3)) 21 t (D32 (S32 (fun j => mBear v j 0) n) (fun j => mPays v j) 3))) H) (hD : va_D A (mdW y a (u2 (u2 (mC2 (mC1 (mT v 0) t n) v t 3) 20 t (D32 (S32 (fun j => mBear v j 1 + mBear v j 2) n) (fun j => mPaid v j) 3)) 21 t (D32 (S32 (fun j => mBear v j 0) n) (fun j => mPays v j) 3)))) (hl : lv_has ls 4 [(0, .ref (a 0)), (1, .int (D32 (S32 (fun j => mBear v j 1 + mBear v j 2) n) (fun j => mPaid v j) 3)), (2, .int (D32 (S32 (fun j => mBear v j 0) n) (fun j => mPays v j) 3)), (3, .int 0)]) : W p l e (headSpec wsX3_closeMonth ({ frames := 2, cells := 0, slots := 0, locals := 52 })).room s m args below meth c H locs 0 0 (MQ below (mQ G (fun _ : Unit => some (.int (mClose v bo n t).2)) (fun _ => True) (fun _ => mdW y a (mClose v bo n t).1) A) args s 0 0 A) (F0 m 197 ls []) := by
  refine loopM (LV := fun k => [(0, .ref (a 0)), (1, .int (D32 (S32 (fun j => mBear v j 1 + mBear v j 2) n) (fun j => mPaid v j) 3)), (2, .int (D32 (S32 (fun j => mBear v j 0) n) (fun j => mPays v j) 3)), (3, .int (nI k))]) (WS := fun k => mdW y a (mC3 (u2 (u2 (mC2 (mC1 (mT v 0) t n) v t 3) 20 t (mTr v n)) 21 t (mIt v n)) bo t k)) n hP hD hS (lv_sub hl [0, 1, 2, 3] rfl) (fun k H locs ls hk_k hP hD hS hl ih_k => ?_) (fun H locs ls hP hD hS hl => ?_)
  · have hl : lv_has ls 4 [(0, .ref (a 0)), (1, .int (D32 (S32 (fun j => mBear v j 1 + mBear v j 2) n) (fun j => mPaid v j) 3)), (2, .int (D32 (S32 (fun j => mBear v j 0) n) (fun j => mPays v j) 3)), (3, .int (nI k))] := hl
    have hP : va_P G vwCl (mdW y a (mC3 (u2 (u2 (mC2 (mC1 (mT v 0) t n) v t 3) 20 t (mTr v n)) 21 t (mIt v n)) bo t k)) H := hP
    have hD : va_D A (mdW y a (mC3 (u2 (u2 (mC2 (mC1 (mT v 0) t n) v t 3) 20 t (mTr v n)) 21 t (mIt v n)) bo t k)) := hD
    have hb3 := (hbo k hk_k).2
    refine lv_iload_n hx hb dX3_closeMonth_197 rfl (lv_at hl 3 rfl) ?_
    refine lv_aload_n hx hb dX3_closeMonth_198 rfl (lv_at hl 0 rfl) ?_
    refine mdG (v := (mC3 (u2 (u2 (mC2 (mC1 (mT v 0) t n) v t 3) 20 t (mTr v n)) 21 t (mIt v n)) bo t k)) (val := .int ((mC3 (u2 (u2 (mC2 (mC1 (mT v 0) t n) v t 3) 20 t (mTr v n)) 21 t (mIt v n)) bo t k) 0 6)) hx hb hts hin3 hown hK hP 6 (by decide) (hts (.fieldLink RX3 66 "FundBookModel" "loans" "I") (by decide +kernel)) rfl dX3_closeMonth_199 ?_
    refine lv_topE (z := nI n) (by rw [mC3_o (by decide), u2_j (by decide), u2_j (by decide), mC2_o (by decide), mC1_o (by decide) (by decide)]; exact hn) ?_
    refine lv_icmp_ge (tgt := 249) hx hb dX3_closeMonth_202 (by decide) (fun c_202 => absurd c_202 (nI_ge hk_k (by omega))) (fun c_202 => ?_)
    refine lv_aload_n hx hb dX3_closeMonth_205 rfl (lv_at hl 0 rfl) ?_
    refine mdG (v := (mC3 (u2 (u2 (mC2 (mC1 (mT v 0) t n) v t 3) 20 t (mTr v n)) 21 t (mIt v n)) bo t k)) (val := .int ((mC3 (u2 (u2 (mC2 (mC1 (mT v 0) t n) v t 3) 20 t (mTr v n)) 21 t (mIt v n)) bo t k) 0 1)) hx hb hts hin3 hown hK hP 1 (by decide) (hts (.fieldLink RX3 73 "FundBookModel" "now" "I") (by decide +kernel)) rfl dX3_closeMonth_206 ?_
    refine lv_topE (z := nI t) (by rw [mC3_o (by decide), u2_j (by decide), u2_j (by decide), mC2_o (by decide), mC1_o (by decide) (by decide)]; exact ht) ?_
    refine lv_aload_n hx hb dX3_closeMonth_209 rfl (lv_at hl 0 rfl) ?_
    refine mdG (v := (mC3 (u2 (u2 (mC2 (mC1 (mT v 0) t n) v t 3) 20 t (mTr v n)) 21 t (mIt v n)) bo t k)) (val := .ref (a 12)) hx hb hts hin3 hown hK hP 12 (by decide) (hts (.fieldLink RX3 33 "FundBookModel" "born" "[I") (by decide +kernel)) rfl dX3_closeMonth_210 ?_
    refine lv_iload_n hx hb dX3_closeMonth_213 rfl (lv_at hl 3 rfl) ?_
    refine ldI (f := ((mC3 (u2 (u2 (mC2 (mC1 (mT v 0) t n) v t 3) 20 t (mTr v n)) 21 t (mIt v n)) bo t k) 12)) hx hb hK hP 7 mg_12 k rfl (by omega) (by decide) dX3_closeMonth_214 ?_
    refine lv_topE (z := nI (bo k)) (by rw [mC3_o (by decide), u2_j (by decide), u2_j (by decide), mC2_o (by decide), mC1_o (by decide) (by decide)]; exact (hbo k hk_k).1) ?_
    refine lv_isub hx hb dX3_closeMonth_215 ?_
    refine lv_topE (z := nI (t - bo k)) (pk_sub (hbo k hk_k).2) ?_
    refine lv_bipush (v := 6) hx hb dX3_closeMonth_216 (by decide) ?_
    refine lv_icmp_ge (tgt := 243) hx hb dX3_closeMonth_218 (by decide) (fun c_218 => ?_) (fun c_218 => ?_)
    · have h6 : ¬ t - bo k < 6 := fun q => nI_ge q (by decide) c_218
      have hP : va_P G vwCl (mdW y a (mC3 (u2 (u2 (mC2 (mC1 (mT v 0) t n) v t 3) 20 t (mTr v n)) 21 t (mIt v n)) bo t (k + 1))) H := by rw [mC3, if_neg h6]; exact hP
      have hD : va_D A (mdW y a (mC3 (u2 (u2 (mC2 (mC1 (mT v 0) t n) v t 3) 20 t (mTr v n)) 21 t (mIt v n)) bo t (k + 1))) := by rw [mC3, if_neg h6]; exact hD
      refine lv_iinc (v := (nI (k + 1))) (lv' := [(3, .int (nI (k + 1))), (0, .ref (a 0)), (1, .int (D32 (S32 (fun j => mBear v j 1 + mBear v j 2) n) (fun j => mPaid v j) 3)), (2, .int (D32 (S32 (fun j => mBear v j 0) n) (fun j => mPays v j) 3))]) hx hb dX3_closeMonth_243 hl (k := 3) rfl iinc1 (by decide) rfl (fun ls hl => ?_)
      refine lv_goto (tgt := 197) hx hb dX3_closeMonth_246 (by decide) ?_
      exact ih_k _ _ ls hP hD hS (lv_sub hl [1, 2, 3, 0] rfl)
    · have h6 : t - bo k < 6 := n6lt c_218 (by omega)
      refine lv_aload_n hx hb dX3_closeMonth_221 rfl (lv_at hl 0 rfl) ?_
      refine mdG (v := (mC3 (u2 (u2 (mC2 (mC1 (mT v 0) t n) v t 3) 20 t (mTr v n)) 21 t (mIt v n)) bo t k)) (val := .ref (a 13)) hx hb hts hin3 hown hK hP 13 (by decide) (hts (.fieldLink RX3 36 "FundBookModel" "part" "[I") (by decide +kernel)) rfl dX3_closeMonth_222 ?_
      refine lv_bipush (v := 6) hx hb dX3_closeMonth_225 (by decide) ?_
      refine lv_iload_n hx hb dX3_closeMonth_227 rfl (lv_at hl 3 rfl) ?_
      refine lv_imul hx hb dX3_closeMonth_228 ?_
      refine lv_aload_n hx hb dX3_closeMonth_229 rfl (lv_at hl 0 rfl) ?_
      refine mdG (v := (mC3 (u2 (u2 (mC2 (mC1 (mT v 0) t n) v t 3) 20 t (mTr v n)) 21 t (mIt v n)) bo t k)) (val := .int ((mC3 (u2 (u2 (mC2 (mC1 (mT v 0) t n) v t 3) 20 t (mTr v n)) 21 t (mIt v n)) bo t k) 0 1)) hx hb hts hin3 hown hK hP 1 (by decide) (hts (.fieldLink RX3 73 "FundBookModel" "now" "I") (by decide +kernel)) rfl dX3_closeMonth_230 ?_
      refine lv_topE (z := nI t) (by rw [mC3_o (by decide), u2_j (by decide), u2_j (by decide), mC2_o (by decide), mC1_o (by decide) (by decide)]; exact ht) ?_
      refine lv_iadd hx hb dX3_closeMonth_233 ?_
      refine lv_topE (z := nI (6 * k + t)) (ix6) ?_
      refine lv_aload_n hx hb dX3_closeMonth_234 rfl (lv_at hl 0 rfl) ?_
      refine mdG (v := (mC3 (u2 (u2 (mC2 (mC1 (mT v 0) t n) v t 3) 20 t (mTr v n)) 21 t (mIt v n)) bo t k)) (val := .ref (a 12)) hx hb hts hin3 hown hK hP 12 (by decide) (hts (.fieldLink RX3 33 "FundBookModel" "born" "[I") (by decide +kernel)) rfl dX3_closeMonth_235 ?_
      refine lv_iload_n hx hb dX3_closeMonth_238 rfl (lv_at hl 3 rfl) ?_
      refine ldI (f := ((mC3 (u2 (u2 (mC2 (mC1 (mT v 0) t n) v t 3) 20 t (mTr v n)) 21 t (mIt v n)) bo t k) 12)) hx hb hK hP 7 mg_12 k rfl (by omega) (by decide) dX3_closeMonth_239 ?_
      refine lv_topE (z := nI (bo k)) (by rw [mC3_o (by decide), u2_j (by decide), u2_j (by decide), mC2_o (by decide), mC1_o (by decide) (by decide)]; exact (hbo k hk_k).1) ?_
      refine lv_isub hx hb dX3_closeMonth_240 ?_
      refine lv_topE (z := nI (6 * k + (t - bo k))) (by rw [pk_sub (by omega), Nat.add_sub_assoc (hbo k hk_k).2]) ?_
      refine lv_iconst (v := 0) hx hb dX3_closeMonth_241 (by decide) ?_
      refine stI (f := (mC3 (u2 (u2 (mC2 (mC1 (mT v 0) t n) v t 3) 20 t (mTr v n)) 21 t (mIt v n)) bo t k) 13) (ws1 := mdW y a (u2 (mC3 (u2 (u2 (mC2 (mC1 (mT v 0) t n) v t 3) 20 t (mTr v n)) 21 t (mIt v n)) bo t k) 13 (6 * k + (t - bo k)) 0)) hx hb hK hP hD hS 8 mg_13 (6 * k + (t - bo k)) rfl (by omega) (by decide) ms_13 dX3_closeMonth_242 (fun H locs hP hD hS => ?_)
      have hP : va_P G vwCl (mdW y a (mC3 (u2 (u2 (mC2 (mC1 (mT v 0) t n) v t 3) 20 t (mTr v n)) 21 t (mIt v n)) bo t (k + 1))) H := by rw [mC3, if_pos h6]; exact hP
      have hD : va_D A (mdW y a (mC3 (u2 (u2 (mC2 (mC1 (mT v 0) t n) v t 3) 20 t (mTr v n)) 21 t (mIt v n)) bo t (k + 1))) := by rw [mC3, if_pos h6]; exact hD
      refine lv_iinc (v := (nI (k + 1))) (lv' := [(3, .int (nI (k + 1))), (0, .ref (a 0)), (1, .int (D32 (S32 (fun j => mBear v j 1 + mBear v j 2) n) (fun j => mPaid v j) 3)), (2, .int (D32 (S32 (fun j => mBear v j 0) n) (fun j => mPays v j) 3))]) hx hb dX3_closeMonth_243 hl (k := 3) rfl iinc1 (by decide) rfl (fun ls hl => ?_)
      refine lv_goto (tgt := 197) hx hb dX3_closeMonth_246 (by decide) ?_
      exact ih_k _ _ ls hP hD hS (lv_sub hl [1, 2, 3, 0] rfl)
  · have hl : lv_has ls 4 [(0, .ref (a 0)), (1, .int (D32 (S32 (fun j => mBear v j 1 + mBear v j 2) n) (fun j => mPaid v j) 3)), (2, .int (D32 (S32 (fun j => mBear v j 0) n) (fun j => mPays v j) 3)), (3, .int (nI n))] := hl
    have hP : va_P G vwCl (mdW y a (mC3 (u2 (u2 (mC2 (mC1 (mT v 0) t n) v t 3) 20 t (mTr v n)) 21 t (mIt v n)) bo t n)) H := hP
    have hD : va_D A (mdW y a (mC3 (u2 (u2 (mC2 (mC1 (mT v 0) t n) v t 3) 20 t (mTr v n)) 21 t (mIt v n)) bo t n)) := hD
    refine lv_iload_n hx hb dX3_closeMonth_197 rfl (lv_at hl 3 rfl) ?_
    refine lv_aload_n hx hb dX3_closeMonth_198 rfl (lv_at hl 0 rfl) ?_
    refine mdG (v := (mC3 (u2 (u2 (mC2 (mC1 (mT v 0) t n) v t 3) 20 t (mTr v n)) 21 t (mIt v n)) bo t n)) (val := .int ((mC3 (u2 (u2 (mC2 (mC1 (mT v 0) t n) v t 3) 20 t (mTr v n)) 21 t (mIt v n)) bo t n) 0 6)) hx hb hts hin3 hown hK hP 6 (by decide) (hts (.fieldLink RX3 66 "FundBookModel" "loans" "I") (by decide +kernel)) rfl dX3_closeMonth_199 ?_
    refine lv_topE (z := nI n) (by rw [mC3_o (by decide), u2_j (by decide), u2_j (by decide), mC2_o (by decide), mC1_o (by decide) (by decide)]; exact hn) ?_
    refine lv_icmp_ge (tgt := 249) hx hb dX3_closeMonth_202 (by decide) (fun c_202 => ?_) (fun c_202 => absurd (nI_le (Nat.le_refl n) (by omega)) c_202)
    refine lv_aload_n hx hb dX3_closeMonth_249 rfl (lv_at hl 0 rfl) ?_
    refine lv_dup hx hb dX3_closeMonth_250 rfl ?_
    refine mdG (v := (mC3 (u2 (u2 (mC2 (mC1 (mT v 0) t n) v t 3) 20 t (mTr v n)) 21 t (mIt v n)) bo t n)) (val := .int ((mC3 (u2 (u2 (mC2 (mC1 (mT v 0) t n) v t 3) 20 t (mTr v n)) 21 t (mIt v n)) bo t n) 0 1)) hx hb hts hin3 hown hK hP 1 (by decide) (hts (.fieldLink RX3 73 "FundBookModel" "now" "I") (by decide +kernel)) rfl dX3_closeMonth_251 ?_
    refine lv_topE (z := nI t) (by rw [mC3_o (by decide), u2_j (by decide), u2_j (by decide), mC2_o (by decide), mC1_o (by decide) (by decide)]; exact ht) ?_
    refine lv_iconst (v := 1) hx hb dX3_closeMonth_254 (by decide) ?_
    refine lv_iadd hx hb dX3_closeMonth_255 ?_
    refine lv_topE (z := nI (t + 1)) (nI_1 t) ?_
    refine mdS (v := (mC3 (u2 (u2 (mC2 (mC1 (mT v 0) t n) v t 3) 20 t (mTr v n)) 21 t (mIt v n)) bo t n)) (x := nI (t + 1)) hx hb hts hin3 hown hK hP hD hS 1 (by decide) (hts (.fieldLink RX3 73 "FundBookModel" "now" "I") (by decide +kernel)) dX3_closeMonth_256 (fun H locs hP hD hS => ?_)
    refine lv_aload_n hx hb dX3_closeMonth_259 rfl (lv_at hl 0 rfl) ?_
    refine lv_aload_n hx hb dX3_closeMonth_260 rfl (lv_at hl 0 rfl) ?_
    refine mdG (v := (u2 (mC3 (u2 (u2 (mC2 (mC1 (mT v 0) t n) v t 3) 20 t (mTr v n)) 21 t (mIt v n)) bo t n) 0 1 (nI (t + 1)))) (val := .int (nI (t + 1))) hx hb hts hin3 hown hK hP 1 (by decide) (hts (.fieldLink RX3 73 "FundBookModel" "now" "I") (by decide +kernel)) rfl dX3_closeMonth_261 ?_
    refine lv_bipush (v := 6) hx hb dX3_closeMonth_264 (by decide) ?_
    refine lv_irem hx hb dX3_closeMonth_266 (by decide) ?_
    refine lv_topE (z := nI ((t + 1) % 6)) (pk_rem (by omega) (by decide) (by decide)) ?_
    refine caM (va_runV (As := [.int (nI ((t + 1) % 6))]) (rest := []) ⟨hx, hb, hml, hown, hts⟩ (c_X3_lays l G y a (u2 (mC3 (u2 (u2 (mC2 (mC1 (mT v 0) t n) v t 3) 20 t (mTr v n)) 21 t (mIt v n)) bo t n) 0 1 (nI (t + 1))) H.size ((t + 1) % 6) (Nat.mod_lt _ (by decide))) (cwV 1 hts gX3_closeMonth_X3_lays rfl rfl rfl (by decide +kernel) ⟨Nat.le_of_ble_eq_true rfl, Nat.le_of_ble_eq_true rfl⟩) ⟨mP_bl, va_recv hK.1 hP (ci := 3) (q0 := 0) rfl rfl, fun U hU hW => ⟨rfl, by rw [hU], by rw [hU]; exact hP, Kb.moved hW hK, hD.weaken (fun _ _ _ _ => trivial)⟩⟩ rfl rfl hl.1 rfl (lv_room (Nat.le_of_ble_eq_true rfl)) dX3_closeMonth_267 ⟨Nat.le_of_ble_eq_true rfl, Nat.le_of_ble_eq_true rfl⟩) hS (freeW hD hS hA) (freeW hD hS hA) (fun _ H locs _ hP hD _ _ hS => ?_)
    refine W.eq (g2 := F0 m 270 ls []) rfl ?_
    have hP : va_P G vwCl (mdW y a (mLay (mCw v bo n t) ((t + 1) % 6))) H := hP
    have hD : va_D A (mdW y a (mLay (mCw v bo n t) ((t + 1) % 6))) := hD
    refine lv_aload_n hx hb dX3_closeMonth_270 rfl (lv_at hl 0 rfl) ?_
    refine mdG (v := (mLay (mCw v bo n t) ((t + 1) % 6))) (val := .int ((mLay (mCw v bo n t) ((t + 1) % 6)) 0 1)) hx hb hts hin3 hown hK hP 1 (by decide) (hts (.fieldLink RX3 73 "FundBookModel" "now" "I") (by decide +kernel)) rfl dX3_closeMonth_271 ?_
    refine lv_topE (z := nI (t + 1)) (rfl) ?_
    have ev : mClose v bo n t = ((mLay (mCw v bo n t) ((t + 1) % 6)), nI (t + 1)) := by unfold mClose; exact (if_neg (show ¬ t = 47 by omega))
    exact W.iret (v := nI (t + 1)) hx hb hr (fun t ht hW => ⟨⟨(), by rw [ev], trivial, by rw [ht, ev]; exact hP, by rw [ev]; exact hD⟩, hS.F ht⟩) hS.2.2 dX3_closeMonth_274
set_option maxHeartbeats 4000000 in
set_option maxRecDepth 100000 in
theorem c_X3_closeMonth_2 (l : Launch) (G : va_G) (y : Nat → ClassId) (a : Nat → Nat) (v : MS) (n : Nat) (hn : v 0 6 = nI n) (hn24 : n ≤ 24) (t : Nat) (ht : v 0 1 = nI t) (ht47 : t ≤ 47) (bo : Nat → Nat) (hbo : ∀ l, l < n → v 12 l = nI (bo l) ∧ bo l ≤ t) (ht46 : t < 47) {p : Program} {e : Env} {s : State} {m : MethodId} {args : Array Value} {below : List Frame} {meth : Method} {c : Code} {A : Nat → Prop} {H : Heap} {locs : List Loc} {ls : Array Slot} (hx : p.tables.exec = Jvm.exec) (hb : c.code = cX3_closeMonth) (hr : meth.sig.returnType = (some .int)) (hml : c.maxLocals = 4) (hown : s.vm.findClass RX3 = some m.cls) (hlocks : meth.locks = false) (hts : ∀ w ∈ wsX3_closeMonth, w.before args s = true) (hin3 : ∀ w ∈ wsX30, w ∈ wsX3_closeMonth) (hK : Kb G y s) (hA : ∀ q : Nat, s.heap.size ≤ q → A q) (hS : va_S A s.heap H locs) (hP : va_P G vwCl (mdW y a (mC1 (mT v 0) t n)) H) (hD : va_D A (mdW y a (mC1 (mT v 0) t n))) (hl : lv_has ls 4 [(0, .ref (a 0)), (1, .int (S32 (fun j => mBear v j 1 + mBear v j 2) n)), (2, .int (S32 (fun j => mBear v j 0) n)), (3, .int 0)]) : W p l e (headSpec wsX3_closeMonth ({ frames := 2, cells := 0, slots := 0, locals := 52 })).room s m args below meth c H locs 0 0 (MQ below (mQ G (fun _ : Unit => some (.int (mClose v bo n t).2)) (fun _ => True) (fun _ => mdW y a (mClose v bo n t).1) A) args s 0 0 A) (F0 m 121 ls []) := by
  refine loopM (LV := fun b => [(0, .ref (a 0)), (1, .int (D32 (S32 (fun j => mBear v j 1 + mBear v j 2) n) (fun j => mPaid v j) b)), (2, .int (D32 (S32 (fun j => mBear v j 0) n) (fun j => mPays v j) b)), (3, .int (nI b))]) (WS := fun b => mdW y a (mC2 (mC1 (mT v 0) t n) v t b)) 3 hP hD hS (lv_sub hl [0, 1, 2, 3] rfl) (fun b H locs ls hk_b hP hD hS hl ih_b => ?_) (fun H locs ls hP hD hS hl => ?_)
  · have hl : lv_has ls 4 [(0, .ref (a 0)), (1, .int (D32 (S32 (fun j => mBear v j 1 + mBear v j 2) n) (fun j => mPaid v j) b)), (2, .int (D32 (S32 (fun j => mBear v j 0) n) (fun j => mPays v j) b)), (3, .int (nI b))] := hl
    have hP : va_P G vwCl (mdW y a (mC2 (mC1 (mT v 0) t n) v t b)) H := hP
    have hD : va_D A (mdW y a (mC2 (mC1 (mT v 0) t n) v t b)) := hD
    refine lv_iload_n hx hb dX3_closeMonth_121 rfl (lv_at hl 3 rfl) ?_
    refine lv_iconst (v := 3) hx hb dX3_closeMonth_122 (by decide) ?_
    refine lv_icmp_ge (tgt := 175) hx hb dX3_closeMonth_123 (by decide) (fun c_123 => absurd c_123 (nI_ge hk_b (by decide))) (fun c_123 => ?_)
    exact c_X3_closeMonth_2a l G y a v n hn hn24 t ht ht47 bo hbo ht46 b hk_b hx hb hr hml hown hlocks hts hin3 hK hA hS hP hD (lv_sub hl [0, 1, 2, 3] rfl) ih_b
  · have hl : lv_has ls 4 [(0, .ref (a 0)), (1, .int (D32 (S32 (fun j => mBear v j 1 + mBear v j 2) n) (fun j => mPaid v j) 3)), (2, .int (D32 (S32 (fun j => mBear v j 0) n) (fun j => mPays v j) 3)), (3, .int (nI 3))] := hl
    have hP : va_P G vwCl (mdW y a (mC2 (mC1 (mT v 0) t n) v t 3)) H := hP
    have hD : va_D A (mdW y a (mC2 (mC1 (mT v 0) t n) v t 3)) := hD
    refine lv_iload_n hx hb dX3_closeMonth_121 rfl (lv_at hl 3 rfl) ?_
    refine lv_iconst (v := 3) hx hb dX3_closeMonth_122 (by decide) ?_
    refine lv_icmp_ge (tgt := 175) hx hb dX3_closeMonth_123 (by decide) (fun c_123 => ?_) (fun c_123 => absurd (nI_le (Nat.le_refl 3) (by decide)) c_123)
    refine lv_aload_n hx hb dX3_closeMonth_175 rfl (lv_at hl 0 rfl) ?_
    refine mdG (v := (mC2 (mC1 (mT v 0) t n) v t 3)) (val := .ref (a 20)) hx hb hts hin3 hown hK hP 20 (by decide) (hts (.fieldLink RX3 57 "FundBookModel" "treasuries" "[I") (by decide +kernel)) rfl dX3_closeMonth_176 ?_
    refine lv_aload_n hx hb dX3_closeMonth_179 rfl (lv_at hl 0 rfl) ?_
    refine mdG (v := (mC2 (mC1 (mT v 0) t n) v t 3)) (val := .int ((mC2 (mC1 (mT v 0) t n) v t 3) 0 1)) hx hb hts hin3 hown hK hP 1 (by decide) (hts (.fieldLink RX3 73 "FundBookModel" "now" "I") (by decide +kernel)) rfl dX3_closeMonth_180 ?_
    refine lv_topE (z := nI t) (by rw [mC2_o (by decide), mC1_o (by decide) (by decide)]; exact ht) ?_
    refine lv_iload_n hx hb dX3_closeMonth_183 rfl (lv_at hl 1 rfl) ?_
    refine stI (f := (mC2 (mC1 (mT v 0) t n) v t 3) 20) (ws1 := mdW y a (u2 (mC2 (mC1 (mT v 0) t n) v t 3) 20 t (D32 (S32 (fun j => mBear v j 1 + mBear v j 2) n) (fun j => mPaid v j) 3))) hx hb hK hP hD hS 15 mg_20 t rfl (by omega) (by decide) ms_20 dX3_closeMonth_184 (fun H locs hP hD hS => ?_)
    refine lv_aload_n hx hb dX3_closeMonth_185 rfl (lv_at hl 0 rfl) ?_
    refine mdG (v := (u2 (mC2 (mC1 (mT v 0) t n) v t 3) 20 t (D32 (S32 (fun j => mBear v j 1 + mBear v j 2) n) (fun j => mPaid v j) 3))) (val := .ref (a 21)) hx hb hts hin3 hown hK hP 21 (by decide) (hts (.fieldLink RX3 60 "FundBookModel" "interests" "[I") (by decide +kernel)) rfl dX3_closeMonth_186 ?_
    refine lv_aload_n hx hb dX3_closeMonth_189 rfl (lv_at hl 0 rfl) ?_
    refine mdG (v := (u2 (mC2 (mC1 (mT v 0) t n) v t 3) 20 t (D32 (S32 (fun j => mBear v j 1 + mBear v j 2) n) (fun j => mPaid v j) 3))) (val := .int ((u2 (mC2 (mC1 (mT v 0) t n) v t 3) 20 t (D32 (S32 (fun j => mBear v j 1 + mBear v j 2) n) (fun j => mPaid v j) 3)) 0 1)) hx hb hts hin3 hown hK hP 1 (by decide) (hts (.fieldLink RX3 73 "FundBookModel" "now" "I") (by decide +kernel)) rfl dX3_closeMonth_190 ?_
    refine lv_topE (z := nI t) (by rw [u2_j (by decide), mC2_o (by decide), mC1_o (by decide) (by decide)]; exact ht) ?_
    refine lv_iload_n hx hb dX3_closeMonth_193 rfl (lv_at hl 2 rfl) ?_
    refine stI (f := (u2 (mC2 (mC1 (mT v 0) t n) v t 3) 20 t (D32 (S32 (fun j => mBear v j 1 + mBear v j 2) n) (fun j => mPaid v j) 3)) 21) (ws1 := mdW y a (u2 (u2 (mC2 (mC1 (mT v 0) t n) v t 3) 20 t (D32 (S32 (fun j => mBear v j 1 + mBear v j 2) n) (fun j => mPaid v j) 3)) 21 t (D32 (S32 (fun j => mBear v j 0) n) (fun j => mPays v j) 3))) hx hb hK hP hD hS 16 mg_21 t rfl (by omega) (by decide) ms_21 dX3_closeMonth_194 (fun H locs hP hD hS => ?_)
    refine lv_iconst (v := 0) hx hb dX3_closeMonth_195 (by decide) ?_
    refine lv_istore_n (lv' := [(3, .int 0), (0, .ref (a 0)), (1, .int (D32 (S32 (fun j => mBear v j 1 + mBear v j 2) n) (fun j => mPaid v j) 3)), (2, .int (D32 (S32 (fun j => mBear v j 0) n) (fun j => mPays v j) 3))]) hx hb dX3_closeMonth_196 rfl hl (by decide) rfl (fun ls hl => ?_)
    exact c_X3_closeMonth_3 l G y a v n hn hn24 t ht ht47 bo hbo ht46 hx hb hr hml hown hlocks hts hin3 hK hA hS hP hD (lv_sub hl [1, 2, 3, 0] rfl)
set_option maxHeartbeats 4000000 in
set_option maxRecDepth 100000 in
theorem c_X3_closeMonth (l : Launch) (G : va_G) (y : Nat → ClassId) (a : Nat → Nat) (v : MS) (sz : Nat) (n : Nat) (hn : v 0 6 = nI n) (hn24 : n ≤ 24) (t : Nat) (ht : v 0 1 = nI t) (ht47 : t ≤ 47) (bo : Nat → Nat) (hbo : ∀ l, l < n → v 12 l = nI (bo l) ∧ bo l ≤ t) (hbr : ∀ l, l < n → v 7 l = nI (cn (v 7 l)) ∧ cn (v 7 l) < 3) (hpr : ∀ l, l < n → v 8 l = nI (cn (v 8 l)) ∧ cn (v 8 l) < 3) : Met l yX3_closeMonth wsX3_closeMonth ({ frames := 2, cells := 0, slots := 0, locals := 52 }) (mP G y [.ref (a 0)] (mdW y a v) sz) (mQ G (fun _ : Unit => some (.int (mClose v bo n t).2)) (fun _ => True) (fun _ => mdW y a (mClose v bo n t).1) (va_A (mdW y a v) sz)) 0 0 (va_A (mdW y a v) sz) := by
  refine Met.ofW (cc := cX3_closeMonth) (maxL := 4) (ret := (some .int)) (by decide) rfl ?_
  intro p e s m args below meth c s₁ B hml hv
  obtain ⟨rfl, hsz, hP, hK, hD0⟩ := hv
  have hx := B.exec
  have hb := B.bytes
  have hr := B.returns
  have hts := atoms_spec (ws := wsX3_closeMonth) B.pre
  have hown : s.vm.findClass RX3 = some m.cls := findClass_of_methodNamed B.named
  have hlocks := B.notSynchronized
  subst hsz
  have hD := hD0.self (sz := s.heap.size)
  generalize hAe : va_A (mdW y a v) s.heap.size = A at hD ⊢
  have hA : ∀ q : Nat, s.heap.size ≤ q → A q := fun q h => by rw [← hAe]; exact Or.inr h
  have hS : va_S A s.heap s.heap [] := va_S.rf
  have hP : va_P G vwCl (mdW y a v) s.heap := hP
  have hl := lv_entry ([.ref (a 0)]) (n := 4) (Nat.le_of_ble_eq_true rfl)
  rw [lg_entry_eq]
  generalize (lg_sl ([.ref (a 0)]) ++ List.replicate (4 - (lg_sl ([.ref (a 0)])).length) Slot.unset).toArray = ls at hl ⊢
  have hin3 : ∀ w ∈ wsX30, w ∈ wsX3_closeMonth := by decide +kernel
  have hl : lv_has ls 4 [(0, .ref (a 0))] := hl
  refine lv_aload_n hx hb dX3_closeMonth_0 rfl (lv_at hl 0 rfl) ?_
  refine lv_iconst (v := 0) hx hb dX3_closeMonth_1 (by decide) ?_
  refine mdS (v := v) (x := 0) hx hb hts hin3 hown hK hP hD hS 0 (by decide) (hts (.fieldLink RX3 63 "FundBookModel" "thrown" "I") (by decide +kernel)) dX3_closeMonth_2 (fun H locs hP hD hS => ?_)
  refine lv_aload_n hx hb dX3_closeMonth_5 rfl (lv_at hl 0 rfl) ?_
  refine mdG (v := (u2 v 0 0 0)) (val := .int (v 0 1)) hx hb hts hin3 hown hK hP 1 (by decide) (hts (.fieldLink RX3 73 "FundBookModel" "now" "I") (by decide +kernel)) rfl dX3_closeMonth_6 ?_
  refine lv_topE (z := nI t) (ht) ?_
  refine lv_bipush (v := 47) hx hb dX3_closeMonth_9 (by decide) ?_
  refine lv_icmp_ne (tgt := 20) hx hb dX3_closeMonth_11 (by decide) (fun c_11 => ?_) (fun c_11 => ?_)
  · have ht46 : t < 47 := by
      have h9 : ¬ t = 47 := fun q => c_11 (by rw [q]; rfl)
      omega
    refine lv_iconst (v := 0) hx hb dX3_closeMonth_20 (by decide) ?_
    refine lv_istore_n (lv' := [(1, .int 0), (0, .ref (a 0))]) hx hb dX3_closeMonth_21 rfl hl (by decide) rfl (fun ls hl => ?_)
    refine lv_iconst (v := 0) hx hb dX3_closeMonth_22 (by decide) ?_
    refine lv_istore_n (lv' := [(2, .int 0), (1, .int 0), (0, .ref (a 0))]) hx hb dX3_closeMonth_23 rfl hl (by decide) rfl (fun ls hl => ?_)
    refine lv_iconst (v := 0) hx hb dX3_closeMonth_24 (by decide) ?_
    refine lv_istore_n (lv' := [(3, .int 0), (2, .int 0), (1, .int 0), (0, .ref (a 0))]) hx hb dX3_closeMonth_25 rfl hl (by decide) rfl (fun ls hl => ?_)
    refine loopM (LV := fun k => [(0, .ref (a 0)), (1, .int (S32 (fun j => mBear v j 1 + mBear v j 2) k)), (2, .int (S32 (fun j => mBear v j 0) k)), (3, .int (nI k))]) (WS := fun k => mdW y a (mC1 (mT v 0) t k)) n hP hD hS (lv_sub hl [3, 2, 1, 0] rfl) (fun k H locs ls hk_k hP hD hS hl ih_k => ?_) (fun H locs ls hP hD hS hl => ?_)
    · have hl : lv_has ls 4 [(0, .ref (a 0)), (1, .int (S32 (fun j => mBear v j 1 + mBear v j 2) k)), (2, .int (S32 (fun j => mBear v j 0) k)), (3, .int (nI k))] := hl
      have hP : va_P G vwCl (mdW y a (mC1 (mT v 0) t k)) H := hP
      have hD : va_D A (mdW y a (mC1 (mT v 0) t k)) := hD
      have hb1 := (hbr k hk_k).2
      have hp1 := (hpr k hk_k).2
      refine lv_iload_n hx hb dX3_closeMonth_26 rfl (lv_at hl 3 rfl) ?_
      refine lv_aload_n hx hb dX3_closeMonth_27 rfl (lv_at hl 0 rfl) ?_
      refine mdG (v := (mC1 (mT v 0) t k)) (val := .int ((mC1 (mT v 0) t k) 0 6)) hx hb hts hin3 hown hK hP 6 (by decide) (hts (.fieldLink RX3 66 "FundBookModel" "loans" "I") (by decide +kernel)) rfl dX3_closeMonth_28 ?_
      refine lv_topE (z := nI n) (by rw [mC1_o (by decide) (by decide)]; exact hn) ?_
      refine lv_icmp_ge (tgt := 119) hx hb dX3_closeMonth_31 (by decide) (fun c_31 => absurd c_31 (nI_ge hk_k (by omega))) (fun c_31 => ?_)
      exact c_X3_closeMonth_1a l G y a v n hn hn24 t ht ht47 bo hbo ht46 hbr hpr k hk_k hb1 hp1 hx hb hr hml hown hlocks hts hin3 hK hA hS hP hD (lv_sub hl [0, 1, 2, 3] rfl) ih_k
    · have hl : lv_has ls 4 [(0, .ref (a 0)), (1, .int (S32 (fun j => mBear v j 1 + mBear v j 2) n)), (2, .int (S32 (fun j => mBear v j 0) n)), (3, .int (nI n))] := hl
      have hP : va_P G vwCl (mdW y a (mC1 (mT v 0) t n)) H := hP
      have hD : va_D A (mdW y a (mC1 (mT v 0) t n)) := hD
      refine lv_iload_n hx hb dX3_closeMonth_26 rfl (lv_at hl 3 rfl) ?_
      refine lv_aload_n hx hb dX3_closeMonth_27 rfl (lv_at hl 0 rfl) ?_
      refine mdG (v := (mC1 (mT v 0) t n)) (val := .int ((mC1 (mT v 0) t n) 0 6)) hx hb hts hin3 hown hK hP 6 (by decide) (hts (.fieldLink RX3 66 "FundBookModel" "loans" "I") (by decide +kernel)) rfl dX3_closeMonth_28 ?_
      refine lv_topE (z := nI n) (by rw [mC1_o (by decide) (by decide)]; exact hn) ?_
      refine lv_icmp_ge (tgt := 119) hx hb dX3_closeMonth_31 (by decide) (fun c_31 => ?_) (fun c_31 => absurd (nI_le (Nat.le_refl n) (by omega)) c_31)
      refine lv_iconst (v := 0) hx hb dX3_closeMonth_119 (by decide) ?_
      refine lv_istore_n (lv' := [(3, .int 0), (0, .ref (a 0)), (1, .int (S32 (fun j => mBear v j 1 + mBear v j 2) n)), (2, .int (S32 (fun j => mBear v j 0) n))]) hx hb dX3_closeMonth_120 rfl hl (by decide) rfl (fun ls hl => ?_)
      exact c_X3_closeMonth_2 l G y a v n hn hn24 t ht ht47 bo hbo ht46 hx hb hr hml hown hlocks hts hin3 hK hA hS hP hD (lv_sub hl [1, 2, 3, 0] rfl)
  · refine lv_aload_n hx hb dX3_closeMonth_14 rfl (lv_at hl 0 rfl) ?_
    refine lv_iconst (v := 1) hx hb dX3_closeMonth_15 (by decide) ?_
    refine caM (va_runV (As := [.int 1]) (rest := []) ⟨hx, hb, hml, hown, hts⟩ (c_X3_fails l G y a (u2 v 0 0 0) H.size 1) (cwV 1 hts gX3_closeMonth_X3_fails rfl rfl rfl (by decide +kernel) ⟨Nat.le_of_ble_eq_true rfl, Nat.le_of_ble_eq_true rfl⟩) ⟨mP_bl, va_recv hK.1 hP (ci := 3) (q0 := 0) rfl rfl, fun U hU hW => ⟨rfl, by rw [hU], by rw [hU]; exact hP, Kb.moved hW hK, hD.weaken (fun _ _ _ _ => trivial)⟩⟩ rfl rfl hl.1 rfl (lv_room (Nat.le_of_ble_eq_true rfl)) dX3_closeMonth_16 ⟨Nat.le_of_ble_eq_true rfl, Nat.le_of_ble_eq_true rfl⟩) hS (freeW hD hS hA) (freeW hD hS hA) (fun _ H locs _ hP hD _ _ hS => ?_)
    refine W.eq (g2 := F0 m 19 ls [.int 0]) rfl ?_
    have hP : va_P G vwCl (mdW y a (u2 (u2 v 0 0 0) 0 0 1)) H := hP
    have hD : va_D A (mdW y a (u2 (u2 v 0 0 0) 0 0 1)) := hD
    have ev : mClose v bo n t = ((u2 (u2 v 0 0 0) 0 0 1), 0) := by unfold mClose; exact (if_pos ((nI_eq (by omega) (by decide)).mp c_11))
    exact W.iret (v := 0) hx hb hr (fun t ht hW => ⟨⟨(), by rw [ev], trivial, by rw [ht, ev]; exact hP, by rw [ev]; exact hD⟩, hS.F ht⟩) hS.2.2 dX3_closeMonth_19
end
section
/-! ===== the book's functions, in words of its rows (mine) ===== -/
abbrev LNS : Type := Nat → Nat → Nat → Int32
def lPt (w : MS) (p : Nat) : Nat → Int32 := fun k => if k < p then 0 else w 1 k
def lUnp (w : MS) (p : Nat) : Int32 := S32 (lPt w p) 6
def lFd (w : MS) (p : Nat) : Nat → Int64 := fun k => if k < p then 0 else (w 1 k).toInt64 * (w 2 k).toInt64
def lCust (w : MS) (p : Nat) : Int32 := d12 ((lUnp w p).toInt64 * (w 0 2).toInt64)
def lFund (w : MS) (p : Nat) : Int32 := d12 (S64 (lFd w p) 6)
def lOpt (w : MS) (p : Nat) : Int32 := d12 ((lUnp w p).toInt64 * (w 0 4).toInt64)
def lOwn (w : MS) (p : Nat) : Int32 := lCust w p - lFund w p - lOpt w p
def lAh (w : MS) (p x : Nat) : Int32 := if p + x < 6 then w 1 (p + x) else 0
def bCo (b : MS) (x : Int64) : Int32 := (x * (b 13 3).toInt64 / 100).toInt32
def bTA (b : MS) : Int32 := bCo b (S64 (fun j => (b 7 j).toInt64) 3) / 6
def bAl (b : MS) : Nat → Int64 := fun k => (b 14 k).toInt64
def bWt (b : MS) : Nat → Int64 := fun k => (b 14 k).toInt64 * (b 15 k).toInt64
def bAvg (b : MS) : Int32 := if lg_cmp (S64 (bAl b) 6) 0 ≤ 0 then 0 else (S64 (bWt b) 6 / S64 (bAl b) 6).toInt32
def bPd (b : MS) (x r : Int32) : Int32 := d12 ((bCo b x.toInt64).toInt64 * r.toInt64 + (x - bCo b x.toInt64).toInt64 * (b 0 0).toInt64)
def bEn (t : Nat) (x : Int32) : Int32 := if x < 0 then 0 else if nI t ≤ x then 0 else 1
def bFind (n : Nat) (la : Nat → Nat → Nat) (x : Int32) : Option Nat := if x < 0 then none else if x < 24 then lrF n la (cn x) else none
/-- a sum over the loans that there are -/
def bSm (n : Nat) (F : Nat → Int32) : Nat → Int32 := fun k => if k < n then F k else 0
/-- the margins of the loans whose field f is q -/
def bLm (L : LNS) (pd : Nat → Nat) (f : Nat) (q : Int32) : Nat → Int32 := fun k => if L k 0 f = q then lOwn (L k) (pd k) else 0
def bLM (n : Nat) (L : LNS) (pd : Nat → Nat) (f : Nat) (q : Int32) : Int32 := S32 (bSm n (bLm L pd f q)) 24
def bLay (b : MS) (k : Nat) (am rt : Int32) : MS := u2 (u2 b 14 k am) 15 k rt
def bLA (b : MS) (am rt : Int32) : Nat → MS
  | 0 => b
  | k + 1 => bLay (bLA b am rt k) k am rt
def bPP (L : LNS) (i p : Nat) : LNS := if p < 6 then u3 L i (nI (p + 1)) else L
def bPA (L : LNS) (n : Nat) (pd : Nat → Nat) : Nat → LNS
  | 0 => L
  | k + 1 => if k < n then bPP (bPA L n pd k) k (pd k) else bPA L n pd k
def bR1 (b : MS) (t n : Nat) (L : LNS) (pd : Nat → Nat) : Nat → MS
  | 0 => b
  | k + 1 => u2 (bR1 b t n L pd k) (16 + k) t (bLM n L pd 0 (nI k))
def bR2 (b : MS) (t n : Nat) (L : LNS) (pd : Nat → Nat) : Nat → MS
  | 0 => b
  | k + 1 => u2 (bR2 b t n L pd k) (19 + k) t (bLM n L pd 1 (nI k))
def bTr (L : LNS) (pd : Nat → Nat) : Nat → Int32 := fun k => lFund (L k) (pd k) + lOpt (L k) (pd k)
def bCu (L : LNS) (pd : Nat → Nat) : Nat → Int32 := fun k => lCust (L k) (pd k)
def bR3 (b : MS) (t n : Nat) (L : LNS) (pd : Nat → Nat) : MS := u2 (u2 (bR2 (bR1 b t n L pd 3) t n L pd 3) 11 t (S32 (bSm n (bTr L pd)) 24)) 12 t (S32 (bSm n (bCu L pd)) 24)
def bFT (b : MS) (k : Nat) : Int32 := bPd b (b 7 k) (bAvg b)
def bTC (b : MS) (k : Nat) : Int32 := d12 ((b 7 k).toInt64 * (b 13 1).toInt64)
def bD1 (b : MS) (t : Nat) : Nat → MS
  | 0 => b
  | k + 1 => u2 (u2 (u2 (bD1 b t k) (16 + k) t (bD1 b t k (16 + k) t + (bFT b k - bTC b k))) 11 t (bD1 b t k 11 t - bFT b k)) 12 t (bD1 b t k 12 t - bTC b k)
def bCl (b : MS) (t n : Nat) (L : LNS) (pd : Nat → Nat) : MS := u2 (bD1 (bR3 b t n L pd) t 3) 13 4 (nI (t + 1))
def bClose (b : MS) (t n : Nat) (L : LNS) (pd : Nat → Nat) : MS := bLay (bCl b t n L pd) ((t + 1) % 6) (bTA (bCl b t n L pd)) (bCl b t n L pd 0 5)
/-- codes: 0 where nothing is thrown, else the class by exN -/
def xSetCurve (x r : Int32) : Nat := if x < 1 then 1 else if 6 < x then 1 else if r < 0 then 2 else if 5000 < r then 2 else 0
def xSetRates (d o c : Int32) : Nat := if d < 0 then 2 else if 5000 < d then 2 else if o < 0 then 2 else if 5000 < o then 2 else if c < 0 then 2 else if 100 < c then 2 else 0
def bSetRates (b : MS) (d o c : Int32) : MS := u2 (u2 (u2 b 13 1 d) 13 2 o) 13 3 c
def xLend (n : Nat) (br pr am rt mo : Int32) : Nat := if br < 0 then 1 else if 3 ≤ br then 1 else if pr < 0 then 1 else if 3 ≤ pr then 1 else if am < 1 then 2 else if 10000000 < am then 2 else if rt < 0 then 2 else if 5000 < rt then 2 else if mo < 1 then 2 else if 6 < mo then 2 else if 24 ≤ nI n then 3 else 0
def xRepay (n : Nat) (L : LNS) (pd : Nat → Nat) (x : Int32) : Nat := if mIn x 0 (nI n - 1) = 0 then 1 else if L (cn x) 0 3 = 0 then 3 else if lUnp (L (cn x)) (pd (cn x)) = 0 then 3 else 0
def xDep (b : MS) (x ch : Int32) : Nat := if x < 0 then 1 else if 3 ≤ x then 1 else if ch < -10000000 then 2 else if 10000000 < ch then 2 else if b 7 (cn x) + ch < 0 then 3 else if 10000000 < b 7 (cn x) + ch then 3 else 0
def bDep (b : MS) (i : Nat) (ch : Int32) : MS := if b 13 4 = 0 ∧ ¬ ch = 0 then bLA (u2 b 7 i (b 7 i + ch)) (bTA (u2 b 7 i (b 7 i + ch))) (b 0 5) 6 else u2 b 7 i (b 7 i + ch)
def xBears (n : Nat) (x w : Int32) : Nat := if mIn x 0 (nI n - 1) = 0 then 1 else if mIn w 0 3 = 0 then 2 else 0
def bBear (w : MS) (p : Nat) (x : Int32) : Int32 := if x = 0 then lCust w p else if x = 1 then lFund w p else if x = 2 then lOpt w p else lOwn w p
def xDue (x : Int32) : Nat := if x < 0 then 2 else if 6 ≤ x then 2 else 0
def bDu (L : LNS) (pd : Nat → Nat) (x : Nat) : Nat → Int32 := fun k => lAh (L k) (pd k) x
def x3 (x : Int32) : Nat := if x < 0 then 1 else if 3 ≤ x then 1 else 0
def x6 (x : Int32) : Nat := if x < 0 then 1 else if 6 ≤ x then 1 else 0
def xMar (t : Nat) (x mo : Int32) : Nat := if x < 0 then 1 else if 3 ≤ x then 1 else if bEn t mo = 0 then 1 else 0
def xMo (t : Nat) (mo : Int32) : Nat := if bEn t mo = 0 then 1 else 0
theorem S32_z {f : Nat → Int32} : ∀ {n : Nat}, (∀ k, k < n → f k = 0) → S32 f n = 0
  | 0, _ => rfl
  | n + 1, h => by rw [S32, S32_z (fun k hk => h k (by omega)), h n (by omega)]; rfl
theorem S64_z {f : Nat → Int64} : ∀ {n : Nat}, (∀ k, k < n → f k = 0) → S64 f n = 0
  | 0, _ => rfl
  | n + 1, h => by rw [S64, S64_z (fun k hk => h k (by omega)), h n (by omega)]; rfl
theorem S32_k {f : Nat → Int32} {k : Nat} (h : f k = 0) : S32 f (k + 1) = S32 f k := by rw [S32, h, Int32.add_zero]
theorem lPt_z {w : MS} {p : Nat} : S32 (lPt w p) p = 0 := S32_z (fun k hk => if_pos hk)
theorem lFd_z {w : MS} {p : Nat} : S64 (lFd w p) p = 0 := S64_z (fun k hk => if_pos hk)
theorem lPt_s {w : MS} {p k : Nat} (h : p ≤ k) : S32 (lPt w p) k + w 1 k = S32 (lPt w p) (k + 1) := by
  rw [S32, lPt, if_neg (Nat.not_lt.mpr h)]
theorem lFd_s {w : MS} {p k : Nat} (h : p ≤ k) : S64 (lFd w p) k + (w 1 k).toInt64 * (w 2 k).toInt64 = S64 (lFd w p) (k + 1) := by
  rw [S64, lFd, if_neg (Nat.not_lt.mpr h)]
theorem bSm_s {n : Nat} {F : Nat → Int32} {k : Nat} (h : k < n) : S32 (bSm n F) k + F k = S32 (bSm n F) (k + 1) := by
  rw [S32, bSm, if_pos h]
theorem bSm_k {n : Nat} {F : Nat → Int32} {k : Nat} (h : n ≤ k) : S32 (bSm n F) (k + 1) = S32 (bSm n F) k := S32_k (if_neg (Nat.not_lt.mpr h))
theorem bSm_0 {n : Nat} {F : Nat → Int32} {k : Nat} (h : F k = 0) : S32 (bSm n F) (k + 1) = S32 (bSm n F) k := S32_k (by rw [bSm]; split <;> first | exact h | rfl)
section BK
variable {p : Program} {l : Launch} {e : Env} {R : Room} {s : State} {m : MethodId} {args : Array Value} {below : List Frame} {meth : Method} {c : Code} {H : Heap} {locs : List Loc} {cells slots : Nat} {Q : State → Prop}
variable {cc : ByteArray} {pc : Nat} {ls : Array Slot} {rest st0 : List Value} {G : va_G} {y : Nat → ClassId} {A : Nat → Prop} {H0 : Heap} {a : Nat → Nat} {b : MS} {n : Nat} {la : Nat → Nat → Nat} {L : LNS}
theorem lv_optS {r : Option Nat} {x : Nat} (h : r = some x) (k : W p l e R s m args below meth c H locs cells slots Q (F0 m pc ls (.ref x :: rest))) : W p l e R s m args below meth c H locs cells slots Q (F0 m pc ls (va_rf r :: rest)) := by
  subst h
  exact k
theorem lv_optN {r : Option Nat} (h : r = none) (k : W p l e R s m args below meth c H locs cells slots Q (F0 m pc ls (.null :: rest))) : W p l e R s m args below meth c H locs cells slots Q (F0 m pc ls (va_rf r :: rest)) := by
  subst h
  exact k
theorem bk_ln (hP : va_P G vwCl (bkW y a b n la L) H) {i : Nat} (hi : i < n) : va_P G vwCl (lnC y la L i) H := by
  intro k q hk
  have h3 : k < 3 := (List.getElem?_eq_some_iff.mp hk).1
  exact hP (17 + 3 * i + k) q (by rw [bkW_get hi k h3]; exact hk)
def rpW (y : Nat → ClassId) (a : Nat → Nat) (b : MS) : va_W := [(a 8, .inr (1, [.ref (a 14), .ref (a 15)])), (a 14, .inl (y 0, 6, .inl (b 14))), (a 15, .inl (y 0, 6, .inl (b 15)))]
theorem bk_rp (hP : va_P G vwCl (bkW y a b n la L) H) : va_P G vwCl (rpW y a b) H := hP.sub [4, 5, 6] rfl
theorem bg_M {k : Nat} (h : k < 3) : (bkW y a b n la L)[8 + k]? = some (a (16 + k), .inl (y 0, 47, .inl (b (16 + k)))) := by
  rcases (show k = 0 ∨ k = 1 ∨ k = 2 by omega) with rfl | rfl | rfl <;> rfl
theorem bs_M {k t : Nat} {z : Int32} (h : k < 3) : (bkW y a b n la L).set (8 + k) (a (16 + k), .inl (y 0, 47, .inl (upd (b (16 + k)) t z))) = bkW y a (u2 b (16 + k) t z) n la L := by
  rcases (show k = 0 ∨ k = 1 ∨ k = 2 by omega) with rfl | rfl | rfl <;> rfl
theorem bg_P {k : Nat} (h : k < 3) : (bkW y a b n la L)[12 + k]? = some (a (19 + k), .inl (y 0, 47, .inl (b (19 + k)))) := by
  rcases (show k = 0 ∨ k = 1 ∨ k = 2 by omega) with rfl | rfl | rfl <;> rfl
theorem bs_P {k t : Nat} {z : Int32} (h : k < 3) : (bkW y a b n la L).set (12 + k) (a (19 + k), .inl (y 0, 47, .inl (upd (b (19 + k)) t z))) = bkW y a (u2 b (19 + k) t z) n la L := by
  rcases (show k = 0 ∨ k = 1 ∨ k = 2 by omega) with rfl | rfl | rfl <;> rfl
theorem bg_0 : (bkW y a b n la L)[1]? = some (a 0, .inl (y 0, 6, .inl (b 0))) := rfl
theorem bs_0 {k : Nat} {z : Int32} : (bkW y a b n la L).set 1 (a 0, .inl (y 0, 6, .inl (upd (b 0) k z))) = bkW y a (u2 b 0 k z) n la L := rfl
theorem bg_7 : (bkW y a b n la L)[3]? = some (a 7, .inl (y 0, 3, .inl (b 7))) := rfl
theorem bs_7 {k : Nat} {z : Int32} : (bkW y a b n la L).set 3 (a 7, .inl (y 0, 3, .inl (upd (b 7) k z))) = bkW y a (u2 b 7 k z) n la L := rfl
theorem bg_14 : (bkW y a b n la L)[5]? = some (a 14, .inl (y 0, 6, .inl (b 14))) := rfl
theorem bs_14 {k : Nat} {z : Int32} : (bkW y a b n la L).set 5 (a 14, .inl (y 0, 6, .inl (upd (b 14) k z))) = bkW y a (u2 b 14 k z) n la L := rfl
theorem bg_15 : (bkW y a b n la L)[6]? = some (a 15, .inl (y 0, 6, .inl (b 15))) := rfl
theorem bs_15 {k : Nat} {z : Int32} : (bkW y a b n la L).set 6 (a 15, .inl (y 0, 6, .inl (upd (b 15) k z))) = bkW y a (u2 b 15 k z) n la L := rfl
theorem bg_11 : (bkW y a b n la L)[15]? = some (a 11, .inl (y 0, 47, .inl (b 11))) := rfl
theorem bs_11 {k : Nat} {z : Int32} : (bkW y a b n la L).set 15 (a 11, .inl (y 0, 47, .inl (upd (b 11) k z))) = bkW y a (u2 b 11 k z) n la L := rfl
theorem bg_12 : (bkW y a b n la L)[16]? = some (a 12, .inl (y 0, 47, .inl (b 12))) := rfl
theorem bs_12 {k : Nat} {z : Int32} : (bkW y a b n la L).set 16 (a 12, .inl (y 0, 47, .inl (upd (b 12) k z))) = bkW y a (u2 b 12 k z) n la L := rfl
theorem bg_5 : (bkW y a b n la L)[2]? = some (a 5, .inl (y 2, 24, .inr (.inr (.inr (.inr (lrF n la)))))) := rfl
theorem bg_9 : (bkW y a b n la L)[7]? = some (a 9, .inl (y 3, 3, .inr (.inr (.inr (.inr (fun i => if i < 3 then some (a (16 + i)) else none)))))) := rfl
theorem bg_10 : (bkW y a b n la L)[11]? = some (a 10, .inl (y 3, 3, .inr (.inr (.inr (.inr (fun i => if i < 3 then some (a (19 + i)) else none)))))) := rfl
/-- a loan's paid parts, written -/
theorem lnS {Ts : List Cond} {index i : Nat} {x : Int32} (hexec : p.tables.exec = Jvm.exec) (hb : c.code = cc) (hts : ∀ w ∈ Ts, w.before args s = true) (hin : ∀ w ∈ u_ws RX0 TX0 8, w ∈ Ts) (hown : s.vm.findClass RX0 = some m.cls) (hK : Kb G y s) (hP : va_P G vwCl (bkW y a b n la L) H) (hD : va_D A (bkW y a b n la L)) (hS : va_S A H0 H locs) (hi : i < n) (hlink : (Cond.fieldLink RX0 index (TX0 7).1 (TX0 7).2.1 (TX0 7).2.2.1).before args s = true) (hdg : decode cc pc = .ok (.putfield index, 3))
    (kk : ∀ (H1 : Heap) (locs1 : List Loc), va_P G vwCl (bkW y a b n la (u3 L i x)) H1 → va_D A (bkW y a b n la (u3 L i x)) → va_S A H0 H1 locs1 → W p l e R s m args below meth c H1 locs1 cells slots Q (F0 m (pc + 3) ls rest)) : W p l e R s m args below meth c H locs cells slots Q (F0 m pc ls (.int x :: .ref (la i 0) :: rest)) := by
  have hg : (bkW y a b n la L)[17 + 3 * i]? = some (la i 0, .inr (0, lnF la L i)) := (bkW_get hi 0 (by decide)).trans rfl
  refine va_put (ci := 0) (C := RX0) (T := TX0) (N := 8) (v := .int x) (ty := .int) hexec hb hts hin tyX0 tyX0_ok nmX0 hown hK.1 hP hD hS (17 + 3 * i) hg rfl 7 (by decide) hlink (fun _ h9 => h9) rfl (by decide +kernel) rfl rfl (by show 7 < 8; decide) hdg (fun H1 locs1 h1 h2 h3 => ?_)
  rw [bkW_set hi] at h1 h2
  exact kk H1 locs1 h1 h2 h3
theorem lnG {Ts : List Cond} {index i : Nat} {val : Value} (hexec : p.tables.exec = Jvm.exec) (hb : c.code = cc) (hts : ∀ w ∈ Ts, w.before args s = true) (hin : ∀ w ∈ u_ws RX0 TX0 8, w ∈ Ts) (hown : s.vm.findClass RX0 = some m.cls) (hK : Kb G y s) (hP : va_P G vwCl (lnC y la L i) H) (k : Nat) (hk : k < 8) (hlink : (Cond.fieldLink RX0 index (TX0 k).1 (TX0 k).2.1 (TX0 k).2.2.1).before args s = true) (hv : (lnF la L i)[k]? = some val) (hdg : decode cc pc = .ok (.getfield index, 3))
    (kk : W p l e R s m args below meth c H locs cells slots Q (F0 m (pc + 3) ls (val :: rest))) : W p l e R s m args below meth c H locs cells slots Q (F0 m pc ls (.ref (la i 0) :: rest)) :=
  va_get (ci := 0) (C := RX0) (T := TX0) (N := 8) hexec hb hts hin hown hK.1 hP 0 rfl rfl k hk hlink (fun _ h9 => h9) hv hdg kk
/-- out of the book, a nest mate's -/
theorem lnGN {Ts : List Cond} {index i : Nat} {val : Value} (hexec : p.tables.exec = Jvm.exec) (hb : c.code = cc) (hts : ∀ w ∈ Ts, w.before args s = true) (hin : ∀ w ∈ u_ws RX0 TX0 8, w ∈ Ts) (hown : s.vm.findClass RX2 = some m.cls) (hK : Kb G y s) (hP : va_P G vwCl (lnC y la L i) H) (k : Nat) (hk : k < 8) (hlink : (Cond.fieldLinkNest RX2 index (TX0 k).1 (TX0 k).2.1 (TX0 k).2.2.1 "FundBook") ∈ twH) (hv : (lnF la L i)[k]? = some val) (hdg : decode cc pc = .ok (.getfield index, 3))
    (kk : W p l e R s m args below meth c H locs cells slots Q (F0 m (pc + 3) ls (val :: rest))) : W p l e R s m args below meth c H locs cells slots Q (F0 m pc ls (.ref (la i 0) :: rest)) :=
  va_getN (ci := 0) (C := RX0) (T := TX0) (N := 8) hexec hb hts hin hown hK.1 hP 0 rfl rfl k hk (va_Nw.use (by rfl) (hK.nw hlink)) (fun _ h9 => h9) hv hdg kk
theorem rpG {Ts : List Cond} {index : Nat} {val : Value} (hexec : p.tables.exec = Jvm.exec) (hb : c.code = cc) (hts : ∀ w ∈ Ts, w.before args s = true) (hin : ∀ w ∈ u_ws RX1 TX1 2, w ∈ Ts) (hown : s.vm.findClass RX1 = some m.cls) (hK : Kb G y s) (hP : va_P G vwCl (rpW y a b) H) (k : Nat) (hk : k < 2) (hlink : (Cond.fieldLink RX1 index (TX1 k).1 (TX1 k).2.1 (TX1 k).2.2.1).before args s = true) (hv : ([.ref (a 14), .ref (a 15)] : List Value)[k]? = some val) (hdg : decode cc pc = .ok (.getfield index, 3))
    (kk : W p l e R s m args below meth c H locs cells slots Q (F0 m (pc + 3) ls (val :: rest))) : W p l e R s m args below meth c H locs cells slots Q (F0 m pc ls (.ref (a 8) :: rest)) :=
  va_get (ci := 1) (C := RX1) (T := TX1) (N := 2) hexec hb hts hin hown hK.1 hP 0 rfl rfl k hk hlink (fun _ h9 => h9) hv hdg kk
theorem rpGN {Ts : List Cond} {index : Nat} {val : Value} (hexec : p.tables.exec = Jvm.exec) (hb : c.code = cc) (hts : ∀ w ∈ Ts, w.before args s = true) (hin : ∀ w ∈ u_ws RX1 TX1 2, w ∈ Ts) (hown : s.vm.findClass RX2 = some m.cls) (hK : Kb G y s) (hP : va_P G vwCl (rpW y a b) H) (k : Nat) (hk : k < 2) (hlink : (Cond.fieldLinkNest RX2 index (TX1 k).1 (TX1 k).2.1 (TX1 k).2.2.1 "FundBook") ∈ twH) (hv : ([.ref (a 14), .ref (a 15)] : List Value)[k]? = some val) (hdg : decode cc pc = .ok (.getfield index, 3))
    (kk : W p l e R s m args below meth c H locs cells slots Q (F0 m (pc + 3) ls (val :: rest))) : W p l e R s m args below meth c H locs cells slots Q (F0 m pc ls (.ref (a 8) :: rest)) :=
  va_getN (ci := 1) (C := RX1) (T := TX1) (N := 2) hexec hb hts hin hown hK.1 hP 0 rfl rfl k hk (va_Nw.use (by rfl) (hK.nw hlink)) (fun _ h9 => h9) hv hdg kk
end BK
theorem bR1_o {b : MS} {t n : Nat} {L : LNS} {pd : Nat → Nat} {j : Nat} : ∀ k, k ≤ 3 → (j < 16 ∨ 19 ≤ j) → bR1 b t n L pd k j = b j
  | 0, _, _ => rfl
  | k + 1, h, hj => by rw [bR1, u2_j (by omega), bR1_o k (by omega) hj]
theorem bR2_o {b : MS} {t n : Nat} {L : LNS} {pd : Nat → Nat} {j : Nat} : ∀ k, k ≤ 3 → (j < 19 ∨ 22 ≤ j) → bR2 b t n L pd k j = b j
  | 0, _, _ => rfl
  | k + 1, h, hj => by rw [bR2, u2_j (by omega), bR2_o k (by omega) hj]
theorem bD1_o {b : MS} {t : Nat} {j : Nat} : ∀ k, k ≤ 3 → (j < 11 ∨ 13 ≤ j) → (j < 16 ∨ 19 ≤ j) → bD1 b t k j = b j
  | 0, _, _, _ => rfl
  | k + 1, h, h1, h2 => by rw [bD1, u2_j (by omega), u2_j (by omega), u2_j (by omega), bD1_o k (by omega) h1 h2]
theorem bLA_o {b : MS} {am rt : Int32} {j : Nat} (h1 : j ≠ 14) (h2 : j ≠ 15) : ∀ k, bLA b am rt k j = b j
  | 0 => rfl
  | k + 1 => by rw [bLA, bLay, u2_j h2, u2_j h1, bLA_o h1 h2 k]
end
section
/-! ===== loans, replica, the book's reads (printed by a program of mine) ===== -/
set_option maxHeartbeats 4000000 in
set_option maxRecDepth 100000 in
theorem c_X2_forOneMonth (l : Launch) (x : Int64) : Met l yX2_forOneMonth wsX2_forOneMonth ({ frames := 0, cells := 0, slots := 0, locals := 0 }) (nP [.long x]) (QcV (.int (d12 x))) 0 0 (fun _ => False) := by
  refine Met.ofW (cc := cX2_forOneMonth) (maxL := 2) (ret := (some .int)) (by decide) rfl ?_
  intro p e s m args below meth c s₁ B hml hv
  obtain ⟨rfl, -⟩ := hv
  have hx := B.exec
  have hb := B.bytes
  have hr := B.returns
  have hts := atoms_spec (ws := wsX2_forOneMonth) B.pre
  have hown : s.vm.findClass RX2 = some m.cls := findClass_of_methodNamed B.named
  have hlocks := B.notSynchronized
  have hl := lv_entry ([.long x]) (n := 2) (Nat.le_of_ble_eq_true rfl)
  rw [lg_entry_eq]
  generalize (lg_sl ([.long x]) ++ List.replicate (2 - (lg_sl ([.long x])).length) Slot.unset).toArray = ls at hl ⊢
  have hl : lv_has ls 2 [(0, .long x)] := hl
  refine lv_lload_n hx hb dX2_forOneMonth_0 rfl (lv_at hl 0 rfl) ?_
  refine lv_ldc2 (v := 120000) hx hb hown (hts (.constantLong RX2 187 120000) (by decide +kernel)) dX2_forOneMonth_1 ?_
  refine lv_ldiv hx hb dX2_forOneMonth_4 (by decide) ?_
  refine lv_l2i hx hb dX2_forOneMonth_5 rfl ?_
  exact W.iret (v := (x / 120000).toInt32) hx hb hr (fun t ht hW => ⟨congrArg (fun z => Outcome.returned (some (.int z))) (rfl), ht⟩) t_nil dX2_forOneMonth_6
set_option maxHeartbeats 4000000 in
set_option maxRecDepth 100000 in
theorem c_X0_unpaid (l : Launch) (G : va_G) (y : Nat → ClassId) (la : Nat → Nat → Nat) (L : LNS) (i : Nat) (pq : Nat) (hp : L i 0 7 = nI pq) (hp6 : pq ≤ 6) : Met l yX0_unpaid wsX0_unpaid ({ frames := 0, cells := 0, slots := 0, locals := 0 }) (rP G y [.ref (la i 0)] (lnC y la L i)) (QcV (.int (lUnp (L i) pq))) 0 0 (fun _ => False) := by
  refine Met.ofW (cc := cX0_unpaid) (maxL := 3) (ret := (some .int)) (by decide) rfl ?_
  intro p e s m args below meth c s₁ B hml hv
  obtain ⟨rfl, hP, hK⟩ := hv
  have hx := B.exec
  have hb := B.bytes
  have hr := B.returns
  have hts := atoms_spec (ws := wsX0_unpaid) B.pre
  have hown : s.vm.findClass RX0 = some m.cls := findClass_of_methodNamed B.named
  have hlocks := B.notSynchronized
  have hl := lv_entry ([.ref (la i 0)]) (n := 3) (Nat.le_of_ble_eq_true rfl)
  rw [lg_entry_eq]
  generalize (lg_sl ([.ref (la i 0)]) ++ List.replicate (3 - (lg_sl ([.ref (la i 0)])).length) Slot.unset).toArray = ls at hl ⊢
  have hin0 : ∀ w ∈ wsX00, w ∈ wsX0_unpaid := by decide +kernel
  have hl : lv_has ls 3 [(0, .ref (la i 0))] := hl
  refine lv_iconst (v := 0) hx hb dX0_unpaid_0 (by decide) ?_
  refine lv_istore_n (lv' := [(1, .int 0), (0, .ref (la i 0))]) hx hb dX0_unpaid_1 rfl hl (by decide) rfl (fun ls hl => ?_)
  refine lv_aload_n hx hb dX0_unpaid_2 rfl (lv_at hl 1 rfl) ?_
  refine lnG (i := i) (val := .int (L i 0 7)) hx hb hts hin0 hown hK hP 7 (by decide) (hts (.fieldLink RX0 35 "FundBook$Loan" "paidParts" "I") (by decide +kernel)) rfl dX0_unpaid_3 ?_
  refine lv_topE (z := nI pq) (hp) ?_
  refine lv_istore_n (lv' := [(2, .int (nI pq)), (1, .int 0), (0, .ref (la i 0))]) hx hb dX0_unpaid_6 rfl hl (by decide) rfl (fun ls hl => ?_)
  refine loopF (LV := fun k => [(0, .ref (la i 0)), (1, .int (S32 (lPt (L i) pq) k)), (2, .int (nI k))]) pq 6 hp6 (by show lv_has ls 3 [(0, .ref (la i 0)), (1, .int (S32 (lPt (L i) pq) pq)), (2, .int (nI pq))]; rw [lPt_z]; exact lv_sub hl [2, 1, 0] rfl) (fun k ls hk0 hk_k hl ih_k => ?_) (fun ls hl => ?_)
  · have hl : lv_has ls 3 [(0, .ref (la i 0)), (1, .int (S32 (lPt (L i) pq) k)), (2, .int (nI k))] := hl
    refine lv_iload_n hx hb dX0_unpaid_7 rfl (lv_at hl 2 rfl) ?_
    refine lv_bipush (v := 6) hx hb dX0_unpaid_8 (by decide) ?_
    refine lv_icmp_ge (tgt := 28) hx hb dX0_unpaid_10 (by decide) (fun c_10 => absurd c_10 (nI_ge hk_k (by decide))) (fun c_10 => ?_)
    refine lv_iload_n hx hb dX0_unpaid_13 rfl (lv_at hl 1 rfl) ?_
    refine lv_aload_n hx hb dX0_unpaid_14 rfl (lv_at hl 0 rfl) ?_
    refine lnG (i := i) (val := .ref (la i 1)) hx hb hts hin0 hown hK hP 5 (by decide) (hts (.fieldLink RX0 28 "FundBook$Loan" "parts" "[I") (by decide +kernel)) rfl dX0_unpaid_15 ?_
    refine lv_iload_n hx hb dX0_unpaid_18 rfl (lv_at hl 2 rfl) ?_
    refine ldI (f := L i 1) hx hb hK hP 1 rfl k rfl (by omega) (by decide) dX0_unpaid_19 ?_
    refine lv_iadd hx hb dX0_unpaid_20 ?_
    refine lv_topE (z := S32 (lPt (L i) pq) (k + 1)) (lPt_s hk0) ?_
    refine lv_istore_n (lv' := [(1, .int (S32 (lPt (L i) pq) (k + 1))), (0, .ref (la i 0)), (2, .int (nI k))]) hx hb dX0_unpaid_21 rfl hl (by decide) rfl (fun ls hl => ?_)
    refine lv_iinc (v := (nI (k + 1))) (lv' := [(2, .int (nI (k + 1))), (1, .int (S32 (lPt (L i) pq) (k + 1))), (0, .ref (la i 0))]) hx hb dX0_unpaid_22 hl (k := 2) rfl iinc1 (by decide) rfl (fun ls hl => ?_)
    refine lv_goto (tgt := 7) hx hb dX0_unpaid_25 (by decide) ?_
    exact ih_k ls (lv_sub hl [2, 1, 0] rfl)
  · have hl : lv_has ls 3 [(0, .ref (la i 0)), (1, .int (S32 (lPt (L i) pq) 6)), (2, .int (nI 6))] := hl
    refine lv_iload_n hx hb dX0_unpaid_7 rfl (lv_at hl 2 rfl) ?_
    refine lv_bipush (v := 6) hx hb dX0_unpaid_8 (by decide) ?_
    refine lv_icmp_ge (tgt := 28) hx hb dX0_unpaid_10 (by decide) (fun c_10 => ?_) (fun c_10 => absurd (nI_le (Nat.le_refl 6) (by decide)) c_10)
    refine lv_iload_n hx hb dX0_unpaid_28 rfl (lv_at hl 1 rfl) ?_
    exact W.iret (v := S32 (lPt (L i) pq) 6) hx hb hr (fun t ht hW => ⟨congrArg (fun z => Outcome.returned (some (.int z))) (rfl), ht⟩) t_nil dX0_unpaid_29
set_option maxHeartbeats 4000000 in
set_option maxRecDepth 100000 in
theorem c_X0_funding (l : Launch) (G : va_G) (y : Nat → ClassId) (la : Nat → Nat → Nat) (L : LNS) (i : Nat) (pq : Nat) (hp : L i 0 7 = nI pq) (hp6 : pq ≤ 6) : Met l yX0_funding wsX0_funding ({ frames := 1, cells := 0, slots := 0, locals := 21 }) (rP G y [.ref (la i 0)] (lnC y la L i)) (QcV (.int (lFund (L i) pq))) 0 0 (fun _ => False) := by
  refine Met.ofW (cc := cX0_funding) (maxL := 4) (ret := (some .int)) (by decide) rfl ?_
  intro p e s m args below meth c s₁ B hml hv
  obtain ⟨rfl, hP, hK⟩ := hv
  have hx := B.exec
  have hb := B.bytes
  have hr := B.returns
  have hts := atoms_spec (ws := wsX0_funding) B.pre
  have hown : s.vm.findClass RX0 = some m.cls := findClass_of_methodNamed B.named
  have hlocks := B.notSynchronized
  have hl := lv_entry ([.ref (la i 0)]) (n := 4) (Nat.le_of_ble_eq_true rfl)
  rw [lg_entry_eq]
  generalize (lg_sl ([.ref (la i 0)]) ++ List.replicate (4 - (lg_sl ([.ref (la i 0)])).length) Slot.unset).toArray = ls at hl ⊢
  have hin0 : ∀ w ∈ wsX00, w ∈ wsX0_funding := by decide +kernel
  have hl : lv_has ls 4 [(0, .ref (la i 0))] := hl
  refine lv_lconst (v := 0) hx hb dX0_funding_0 (by decide) ?_
  refine lv_lstore_n (lv' := [(1, .long 0), (0, .ref (la i 0))]) hx hb dX0_funding_1 rfl hl (by decide) rfl (fun ls hl => ?_)
  refine lv_aload_n hx hb dX0_funding_2 rfl (lv_at hl 1 rfl) ?_
  refine lnG (i := i) (val := .int (L i 0 7)) hx hb hts hin0 hown hK hP 7 (by decide) (hts (.fieldLink RX0 35 "FundBook$Loan" "paidParts" "I") (by decide +kernel)) rfl dX0_funding_3 ?_
  refine lv_topE (z := nI pq) (hp) ?_
  refine lv_istore_n (lv' := [(3, .int (nI pq)), (1, .long 0), (0, .ref (la i 0))]) hx hb dX0_funding_6 rfl hl (by decide) rfl (fun ls hl => ?_)
  refine loopF (LV := fun k => [(0, .ref (la i 0)), (1, .long (S64 (lFd (L i) pq) k)), (3, .int (nI k))]) pq 6 hp6 (by show lv_has ls 4 [(0, .ref (la i 0)), (1, .long (S64 (lFd (L i) pq) pq)), (3, .int (nI pq))]; rw [lFd_z]; exact lv_sub hl [2, 1, 0] rfl) (fun k ls hk0 hk_k hl ih_k => ?_) (fun ls hl => ?_)
  · have hl : lv_has ls 4 [(0, .ref (la i 0)), (1, .long (S64 (lFd (L i) pq) k)), (3, .int (nI k))] := hl
    refine lv_iload_n hx hb dX0_funding_7 rfl (lv_at hl 2 rfl) ?_
    refine lv_bipush (v := 6) hx hb dX0_funding_8 (by decide) ?_
    refine lv_icmp_ge (tgt := 37) hx hb dX0_funding_10 (by decide) (fun c_10 => absurd c_10 (nI_ge hk_k (by decide))) (fun c_10 => ?_)
    refine lv_lload_n hx hb dX0_funding_13 rfl (lv_at hl 1 rfl) ?_
    refine lv_aload_n hx hb dX0_funding_14 rfl (lv_at hl 0 rfl) ?_
    refine lnG (i := i) (val := .ref (la i 1)) hx hb hts hin0 hown hK hP 5 (by decide) (hts (.fieldLink RX0 28 "FundBook$Loan" "parts" "[I") (by decide +kernel)) rfl dX0_funding_15 ?_
    refine lv_iload_n hx hb dX0_funding_18 rfl (lv_at hl 2 rfl) ?_
    refine ldI (f := L i 1) hx hb hK hP 1 rfl k rfl (by omega) (by decide) dX0_funding_19 ?_
    refine lv_i2l hx hb dX0_funding_20 rfl ?_
    refine lv_aload_n hx hb dX0_funding_21 rfl (lv_at hl 0 rfl) ?_
    refine lnG (i := i) (val := .ref (la i 2)) hx hb hts hin0 hown hK hP 6 (by decide) (hts (.fieldLink RX0 32 "FundBook$Loan" "fundingRates" "[I") (by decide +kernel)) rfl dX0_funding_22 ?_
    refine lv_iload_n hx hb dX0_funding_25 rfl (lv_at hl 2 rfl) ?_
    refine ldI (f := L i 2) hx hb hK hP 2 rfl k rfl (by omega) (by decide) dX0_funding_26 ?_
    refine lv_i2l hx hb dX0_funding_27 rfl ?_
    refine lv_lmul hx hb dX0_funding_28 ?_
    refine lv_ladd hx hb dX0_funding_29 ?_
    refine lv_topEl (z := S64 (lFd (L i) pq) (k + 1)) (lFd_s hk0) ?_
    refine lv_lstore_n (lv' := [(1, .long (S64 (lFd (L i) pq) (k + 1))), (0, .ref (la i 0)), (3, .int (nI k))]) hx hb dX0_funding_30 rfl hl (by decide) rfl (fun ls hl => ?_)
    refine lv_iinc (v := (nI (k + 1))) (lv' := [(3, .int (nI (k + 1))), (1, .long (S64 (lFd (L i) pq) (k + 1))), (0, .ref (la i 0))]) hx hb dX0_funding_31 hl (k := 2) rfl iinc1 (by decide) rfl (fun ls hl => ?_)
    refine lv_goto (tgt := 7) hx hb dX0_funding_34 (by decide) ?_
    exact ih_k ls (lv_sub hl [2, 1, 0] rfl)
  · have hl : lv_has ls 4 [(0, .ref (la i 0)), (1, .long (S64 (lFd (L i) pq) 6)), (3, .int (nI 6))] := hl
    refine lv_iload_n hx hb dX0_funding_7 rfl (lv_at hl 2 rfl) ?_
    refine lv_bipush (v := 6) hx hb dX0_funding_8 (by decide) ?_
    refine lv_icmp_ge (tgt := 37) hx hb dX0_funding_10 (by decide) (fun c_10 => ?_) (fun c_10 => absurd (nI_le (Nat.le_refl 6) (by decide)) c_10)
    refine lv_lload_n hx hb dX0_funding_37 rfl (lv_at hl 1 rfl) ?_
    refine caR (r := .int (lFund (L i) pq)) (va_runSN (As := [.long (S64 (lFd (L i) pq) 6)]) (rest := []) ⟨hx, hb, hml, hown, hts⟩ (c_X2_forOneMonth l _) ⟨va_cnB (host := "FundBook") 1 hts gX0_funding_X2_forOneMonth_n42 rfl rfl rfl (hK.nw (by decide +kernel)) (hts (.initialized RX2) (by decide +kernel)) (by decide +kernel) ⟨Nat.le_of_ble_eq_true rfl, Nat.le_of_ble_eq_true rfl⟩, hts (.static yX2_forOneMonth) (by decide +kernel), trivial⟩ ⟨nP_bl, fun _ _ _ => ⟨rfl, trivial⟩⟩ rfl rfl hl.1 rfl (lv_room (Nat.le_of_ble_eq_true rfl)) dX0_funding_38 ⟨Nat.le_of_ble_eq_true rfl, Nat.le_of_ble_eq_true rfl⟩) ?_
    exact W.iret (v := lFund (L i) pq) hx hb hr (fun t ht hW => ⟨congrArg (fun z => Outcome.returned (some (.int z))) (rfl), ht⟩) t_nil dX0_funding_41
set_option maxHeartbeats 4000000 in
set_option maxRecDepth 100000 in
theorem c_X0_customerInterest (l : Launch) (G : va_G) (y : Nat → ClassId) (la : Nat → Nat → Nat) (L : LNS) (i : Nat) (pq : Nat) (hp : L i 0 7 = nI pq) (hp6 : pq ≤ 6) : Met l yX0_customerInterest wsX0_customerInterest ({ frames := 1, cells := 0, slots := 0, locals := 22 }) (rP G y [.ref (la i 0)] (lnC y la L i)) (QcV (.int (lCust (L i) pq))) 0 0 (fun _ => False) := by
  refine Met.ofW (cc := cX0_customerInterest) (maxL := 1) (ret := (some .int)) (by decide) rfl ?_
  intro p e s m args below meth c s₁ B hml hv
  obtain ⟨rfl, hP, hK⟩ := hv
  have hx := B.exec
  have hb := B.bytes
  have hr := B.returns
  have hts := atoms_spec (ws := wsX0_customerInterest) B.pre
  have hown : s.vm.findClass RX0 = some m.cls := findClass_of_methodNamed B.named
  have hlocks := B.notSynchronized
  have hl := lv_entry ([.ref (la i 0)]) (n := 1) (Nat.le_of_ble_eq_true rfl)
  rw [lg_entry_eq]
  generalize (lg_sl ([.ref (la i 0)]) ++ List.replicate (1 - (lg_sl ([.ref (la i 0)])).length) Slot.unset).toArray = ls at hl ⊢
  have hin0 : ∀ w ∈ wsX00, w ∈ wsX0_customerInterest := by decide +kernel
  have hl : lv_has ls 1 [(0, .ref (la i 0))] := hl
  refine lv_aload_n hx hb dX0_customerInterest_0 rfl (lv_at hl 0 rfl) ?_
  refine caR (r := .int (lUnp (L i) pq)) (va_runV (As := []) (rest := []) ⟨hx, hb, hml, hown, hts⟩ (c_X0_unpaid l G y la L i pq hp hp6) (cwV 0 hts gX0_customerInterest_X0_unpaid rfl rfl rfl (by decide +kernel) ⟨Nat.le_of_ble_eq_true rfl, Nat.le_of_ble_eq_true rfl⟩) ⟨rP_bl, va_recv hK.1 hP (ci := 0) (q0 := 0) rfl rfl, fun U hU hW => ⟨rfl, by rw [hU]; exact hP, Kb.moved hW hK⟩⟩ rfl rfl hl.1 rfl (lv_room (Nat.le_of_ble_eq_true rfl)) dX0_customerInterest_1 ⟨Nat.le_of_ble_eq_true rfl, Nat.le_of_ble_eq_true rfl⟩) ?_
  refine lv_i2l hx hb dX0_customerInterest_4 rfl ?_
  refine lv_aload_n hx hb dX0_customerInterest_5 rfl (lv_at hl 0 rfl) ?_
  refine lnG (i := i) (val := .int (L i 0 2)) hx hb hts hin0 hown hK hP 2 (by decide) (hts (.fieldLink RX0 18 "FundBook$Loan" "rate" "I") (by decide +kernel)) rfl dX0_customerInterest_6 ?_
  refine lv_i2l hx hb dX0_customerInterest_9 rfl ?_
  refine lv_lmul hx hb dX0_customerInterest_10 ?_
  refine caR (r := .int (lCust (L i) pq)) (va_runSN (As := [.long ((lUnp (L i) pq).toInt64 * (L i 0 2).toInt64)]) (rest := []) ⟨hx, hb, hml, hown, hts⟩ (c_X2_forOneMonth l _) ⟨va_cnB (host := "FundBook") 1 hts gX0_customerInterest_X2_forOneMonth_n42 rfl rfl rfl (hK.nw (by decide +kernel)) (hts (.initialized RX2) (by decide +kernel)) (by decide +kernel) ⟨Nat.le_of_ble_eq_true rfl, Nat.le_of_ble_eq_true rfl⟩, hts (.static yX2_forOneMonth) (by decide +kernel), trivial⟩ ⟨nP_bl, fun _ _ _ => ⟨rfl, trivial⟩⟩ rfl rfl hl.1 rfl (lv_room (Nat.le_of_ble_eq_true rfl)) dX0_customerInterest_11 ⟨Nat.le_of_ble_eq_true rfl, Nat.le_of_ble_eq_true rfl⟩) ?_
  exact W.iret (v := lCust (L i) pq) hx hb hr (fun t ht hW => ⟨congrArg (fun z => Outcome.returned (some (.int z))) (rfl), ht⟩) t_nil dX0_customerInterest_14
set_option maxHeartbeats 4000000 in
set_option maxRecDepth 100000 in
theorem c_X0_optionCharge (l : Launch) (G : va_G) (y : Nat → ClassId) (la : Nat → Nat → Nat) (L : LNS) (i : Nat) (pq : Nat) (hp : L i 0 7 = nI pq) (hp6 : pq ≤ 6) : Met l yX0_optionCharge wsX0_optionCharge ({ frames := 1, cells := 0, slots := 0, locals := 22 }) (rP G y [.ref (la i 0)] (lnC y la L i)) (QcV (.int (lOpt (L i) pq))) 0 0 (fun _ => False) := by
  refine Met.ofW (cc := cX0_optionCharge) (maxL := 1) (ret := (some .int)) (by decide) rfl ?_
  intro p e s m args below meth c s₁ B hml hv
  obtain ⟨rfl, hP, hK⟩ := hv
  have hx := B.exec
  have hb := B.bytes
  have hr := B.returns
  have hts := atoms_spec (ws := wsX0_optionCharge) B.pre
  have hown : s.vm.findClass RX0 = some m.cls := findClass_of_methodNamed B.named
  have hlocks := B.notSynchronized
  have hl := lv_entry ([.ref (la i 0)]) (n := 1) (Nat.le_of_ble_eq_true rfl)
  rw [lg_entry_eq]
  generalize (lg_sl ([.ref (la i 0)]) ++ List.replicate (1 - (lg_sl ([.ref (la i 0)])).length) Slot.unset).toArray = ls at hl ⊢
  have hin0 : ∀ w ∈ wsX00, w ∈ wsX0_optionCharge := by decide +kernel
  have hl : lv_has ls 1 [(0, .ref (la i 0))] := hl
  refine lv_aload_n hx hb dX0_optionCharge_0 rfl (lv_at hl 0 rfl) ?_
  refine caR (r := .int (lUnp (L i) pq)) (va_runV (As := []) (rest := []) ⟨hx, hb, hml, hown, hts⟩ (c_X0_unpaid l G y la L i pq hp hp6) (cwV 0 hts gX0_optionCharge_X0_unpaid rfl rfl rfl (by decide +kernel) ⟨Nat.le_of_ble_eq_true rfl, Nat.le_of_ble_eq_true rfl⟩) ⟨rP_bl, va_recv hK.1 hP (ci := 0) (q0 := 0) rfl rfl, fun U hU hW => ⟨rfl, by rw [hU]; exact hP, Kb.moved hW hK⟩⟩ rfl rfl hl.1 rfl (lv_room (Nat.le_of_ble_eq_true rfl)) dX0_optionCharge_1 ⟨Nat.le_of_ble_eq_true rfl, Nat.le_of_ble_eq_true rfl⟩) ?_
  refine lv_i2l hx hb dX0_optionCharge_4 rfl ?_
  refine lv_aload_n hx hb dX0_optionCharge_5 rfl (lv_at hl 0 rfl) ?_
  refine lnG (i := i) (val := .int (L i 0 4)) hx hb hts hin0 hown hK hP 4 (by decide) (hts (.fieldLink RX0 25 "FundBook$Loan" "optionRate" "I") (by decide +kernel)) rfl dX0_optionCharge_6 ?_
  refine lv_i2l hx hb dX0_optionCharge_9 rfl ?_
  refine lv_lmul hx hb dX0_optionCharge_10 ?_
  refine caR (r := .int (lOpt (L i) pq)) (va_runSN (As := [.long ((lUnp (L i) pq).toInt64 * (L i 0 4).toInt64)]) (rest := []) ⟨hx, hb, hml, hown, hts⟩ (c_X2_forOneMonth l _) ⟨va_cnB (host := "FundBook") 1 hts gX0_optionCharge_X2_forOneMonth_n42 rfl rfl rfl (hK.nw (by decide +kernel)) (hts (.initialized RX2) (by decide +kernel)) (by decide +kernel) ⟨Nat.le_of_ble_eq_true rfl, Nat.le_of_ble_eq_true rfl⟩, hts (.static yX2_forOneMonth) (by decide +kernel), trivial⟩ ⟨nP_bl, fun _ _ _ => ⟨rfl, trivial⟩⟩ rfl rfl hl.1 rfl (lv_room (Nat.le_of_ble_eq_true rfl)) dX0_optionCharge_11 ⟨Nat.le_of_ble_eq_true rfl, Nat.le_of_ble_eq_true rfl⟩) ?_
  exact W.iret (v := lOpt (L i) pq) hx hb hr (fun t ht hW => ⟨congrArg (fun z => Outcome.returned (some (.int z))) (rfl), ht⟩) t_nil dX0_optionCharge_14
set_option maxHeartbeats 4000000 in
set_option maxRecDepth 100000 in
theorem c_X0_ownMargin (l : Launch) (G : va_G) (y : Nat → ClassId) (la : Nat → Nat → Nat) (L : LNS) (i : Nat) (pq : Nat) (hp : L i 0 7 = nI pq) (hp6 : pq ≤ 6) : Met l yX0_ownMargin wsX0_ownMargin ({ frames := 2, cells := 0, slots := 0, locals := 44 }) (rP G y [.ref (la i 0)] (lnC y la L i)) (QcV (.int (lOwn (L i) pq))) 0 0 (fun _ => False) := by
  refine Met.ofW (cc := cX0_ownMargin) (maxL := 1) (ret := (some .int)) (by decide) rfl ?_
  intro p e s m args below meth c s₁ B hml hv
  obtain ⟨rfl, hP, hK⟩ := hv
  have hx := B.exec
  have hb := B.bytes
  have hr := B.returns
  have hts := atoms_spec (ws := wsX0_ownMargin) B.pre
  have hown : s.vm.findClass RX0 = some m.cls := findClass_of_methodNamed B.named
  have hlocks := B.notSynchronized
  have hl := lv_entry ([.ref (la i 0)]) (n := 1) (Nat.le_of_ble_eq_true rfl)
  rw [lg_entry_eq]
  generalize (lg_sl ([.ref (la i 0)]) ++ List.replicate (1 - (lg_sl ([.ref (la i 0)])).length) Slot.unset).toArray = ls at hl ⊢
  have hl : lv_has ls 1 [(0, .ref (la i 0))] := hl
  refine lv_aload_n hx hb dX0_ownMargin_0 rfl (lv_at hl 0 rfl) ?_
  refine caR (r := .int (lCust (L i) pq)) (va_runV (As := []) (rest := []) ⟨hx, hb, hml, hown, hts⟩ (c_X0_customerInterest l G y la L i pq hp hp6) (cwV 0 hts gX0_ownMargin_X0_customerInterest rfl rfl rfl (by decide +kernel) ⟨Nat.le_of_ble_eq_true rfl, Nat.le_of_ble_eq_true rfl⟩) ⟨rP_bl, va_recv hK.1 hP (ci := 0) (q0 := 0) rfl rfl, fun U hU hW => ⟨rfl, by rw [hU]; exact hP, Kb.moved hW hK⟩⟩ rfl rfl hl.1 rfl (lv_room (Nat.le_of_ble_eq_true rfl)) dX0_ownMargin_1 ⟨Nat.le_of_ble_eq_true rfl, Nat.le_of_ble_eq_true rfl⟩) ?_
  refine lv_aload_n hx hb dX0_ownMargin_4 rfl (lv_at hl 0 rfl) ?_
  refine caR (r := .int (lFund (L i) pq)) (va_runV (As := []) (rest := [.int (lCust (L i) pq)]) ⟨hx, hb, hml, hown, hts⟩ (c_X0_funding l G y la L i pq hp hp6) (cwV 0 hts gX0_ownMargin_X0_funding rfl rfl rfl (by decide +kernel) ⟨Nat.le_of_ble_eq_true rfl, Nat.le_of_ble_eq_true rfl⟩) ⟨rP_bl, va_recv hK.1 hP (ci := 0) (q0 := 0) rfl rfl, fun U hU hW => ⟨rfl, by rw [hU]; exact hP, Kb.moved hW hK⟩⟩ rfl rfl hl.1 rfl (lv_room (Nat.le_of_ble_eq_true rfl)) dX0_ownMargin_5 ⟨Nat.le_of_ble_eq_true rfl, Nat.le_of_ble_eq_true rfl⟩) ?_
  refine lv_isub hx hb dX0_ownMargin_8 ?_
  refine lv_aload_n hx hb dX0_ownMargin_9 rfl (lv_at hl 0 rfl) ?_
  refine caR (r := .int (lOpt (L i) pq)) (va_runV (As := []) (rest := [.int (lCust (L i) pq - lFund (L i) pq)]) ⟨hx, hb, hml, hown, hts⟩ (c_X0_optionCharge l G y la L i pq hp hp6) (cwV 0 hts gX0_ownMargin_X0_optionCharge rfl rfl rfl (by decide +kernel) ⟨Nat.le_of_ble_eq_true rfl, Nat.le_of_ble_eq_true rfl⟩) ⟨rP_bl, va_recv hK.1 hP (ci := 0) (q0 := 0) rfl rfl, fun U hU hW => ⟨rfl, by rw [hU]; exact hP, Kb.moved hW hK⟩⟩ rfl rfl hl.1 rfl (lv_room (Nat.le_of_ble_eq_true rfl)) dX0_ownMargin_10 ⟨Nat.le_of_ble_eq_true rfl, Nat.le_of_ble_eq_true rfl⟩) ?_
  refine lv_isub hx hb dX0_ownMargin_13 ?_
  exact W.iret (v := ((lCust (L i) pq - lFund (L i) pq) - lOpt (L i) pq)) hx hb hr (fun t ht hW => ⟨congrArg (fun z => Outcome.returned (some (.int z))) (rfl), ht⟩) t_nil dX0_ownMargin_14
set_option maxHeartbeats 4000000 in
set_option maxRecDepth 100000 in
theorem c_X0_partAhead (l : Launch) (G : va_G) (y : Nat → ClassId) (la : Nat → Nat → Nat) (L : LNS) (i : Nat) (pq : Nat) (hp : L i 0 7 = nI pq) (hp6 : pq ≤ 6) (x : Nat) (hx5 : x ≤ 5) : Met l yX0_partAhead wsX0_partAhead ({ frames := 0, cells := 0, slots := 0, locals := 0 }) (rP G y [.ref (la i 0), .int (nI x)] (lnC y la L i)) (QcV (.int (lAh (L i) pq x))) 0 0 (fun _ => False) := by
  refine Met.ofW (cc := cX0_partAhead) (maxL := 3) (ret := (some .int)) (by decide) rfl ?_
  intro p e s m args below meth c s₁ B hml hv
  obtain ⟨rfl, hP, hK⟩ := hv
  have hx := B.exec
  have hb := B.bytes
  have hr := B.returns
  have hts := atoms_spec (ws := wsX0_partAhead) B.pre
  have hown : s.vm.findClass RX0 = some m.cls := findClass_of_methodNamed B.named
  have hlocks := B.notSynchronized
  have hl := lv_entry ([.ref (la i 0), .int (nI x)]) (n := 3) (Nat.le_of_ble_eq_true rfl)
  rw [lg_entry_eq]
  generalize (lg_sl ([.ref (la i 0), .int (nI x)]) ++ List.replicate (3 - (lg_sl ([.ref (la i 0), .int (nI x)])).length) Slot.unset).toArray = ls at hl ⊢
  have hin0 : ∀ w ∈ wsX00, w ∈ wsX0_partAhead := by decide +kernel
  have hl : lv_has ls 3 [(0, .ref (la i 0)), (1, .int (nI x))] := hl
  refine lv_aload_n hx hb dX0_partAhead_0 rfl (lv_at hl 0 rfl) ?_
  refine lnG (i := i) (val := .int (L i 0 7)) hx hb hts hin0 hown hK hP 7 (by decide) (hts (.fieldLink RX0 35 "FundBook$Loan" "paidParts" "I") (by decide +kernel)) rfl dX0_partAhead_1 ?_
  refine lv_topE (z := nI pq) (hp) ?_
  refine lv_iload_n hx hb dX0_partAhead_4 rfl (lv_at hl 1 rfl) ?_
  refine lv_iadd hx hb dX0_partAhead_5 ?_
  refine lv_topE (z := nI (pq + x)) (nI_add pq x) ?_
  refine lv_istore_n (lv' := [(2, .int (nI (pq + x))), (0, .ref (la i 0)), (1, .int (nI x))]) hx hb dX0_partAhead_6 rfl hl (by decide) rfl (fun ls hl => ?_)
  refine lv_iload_n hx hb dX0_partAhead_7 rfl (lv_at hl 0 rfl) ?_
  refine lv_bipush (v := 6) hx hb dX0_partAhead_8 (by decide) ?_
  refine lv_icmp_ge (tgt := 22) hx hb dX0_partAhead_10 (by decide) (fun c_10 => ?_) (fun c_10 => ?_)
  · have h6 : ¬ pq + x < 6 := fun q => nI_ge q (by decide) c_10
    refine lv_iconst (v := 0) hx hb dX0_partAhead_22 (by decide) ?_
    exact W.iret (v := 0) hx hb hr (fun t ht hW => ⟨congrArg (fun z => Outcome.returned (some (.int z))) (by unfold lAh; exact (if_neg h6).symm), ht⟩) t_nil dX0_partAhead_23
  · have h6 : pq + x < 6 := n6lt c_10 (by omega)
    refine lv_aload_n hx hb dX0_partAhead_13 rfl (lv_at hl 1 rfl) ?_
    refine lnG (i := i) (val := .ref (la i 1)) hx hb hts hin0 hown hK hP 5 (by decide) (hts (.fieldLink RX0 28 "FundBook$Loan" "parts" "[I") (by decide +kernel)) rfl dX0_partAhead_14 ?_
    refine lv_iload_n hx hb dX0_partAhead_17 rfl (lv_at hl 0 rfl) ?_
    refine ldI (f := L i 1) hx hb hK hP 1 rfl (pq + x) rfl (by omega) (by decide) dX0_partAhead_18 ?_
    refine lv_goto (tgt := 23) hx hb dX0_partAhead_19 (by decide) ?_
    exact W.iret (v := L i 1 (pq + x)) hx hb hr (fun t ht hW => ⟨congrArg (fun z => Outcome.returned (some (.int z))) (by unfold lAh; exact (if_pos h6).symm), ht⟩) t_nil dX0_partAhead_23
set_option maxHeartbeats 4000000 in
set_option maxRecDepth 100000 in
theorem c_X0_payPart (l : Launch) (G : va_G) (y : Nat → ClassId) (a : Nat → Nat) (b : MS) (n : Nat) (la : Nat → Nat → Nat) (L : LNS) (sz : Nat) (i : Nat) (hi : i < n) (pq : Nat) (hp : L i 0 7 = nI pq) (hp6 : pq ≤ 6) : Met l yX0_payPart wsX0_payPart ({ frames := 0, cells := 0, slots := 0, locals := 0 }) (mP G y [.ref (la i 0)] (bkW y a b n la L) sz) (mQ G (fun _ : Unit => none) (fun _ => True) (fun _ => bkW y a b n la (bPP L i pq)) (va_A (bkW y a b n la L) sz)) 0 0 (va_A (bkW y a b n la L) sz) := by
  refine Met.ofW (cc := cX0_payPart) (maxL := 1) (ret := none) (by decide) rfl ?_
  intro p e s m args below meth c s₁ B hml hv
  obtain ⟨rfl, hsz, hP, hK, hD0⟩ := hv
  have hx := B.exec
  have hb := B.bytes
  have hr := B.returns
  have hts := atoms_spec (ws := wsX0_payPart) B.pre
  have hown : s.vm.findClass RX0 = some m.cls := findClass_of_methodNamed B.named
  have hlocks := B.notSynchronized
  subst hsz
  have hD := hD0.self (sz := s.heap.size)
  generalize hAe : va_A (bkW y a b n la L) s.heap.size = A at hD ⊢
  have hA : ∀ q : Nat, s.heap.size ≤ q → A q := fun q h => by rw [← hAe]; exact Or.inr h
  have hS : va_S A s.heap s.heap [] := va_S.rf
  have hP : va_P G vwCl (bkW y a b n la L) s.heap := hP
  have hl := lv_entry ([.ref (la i 0)]) (n := 1) (Nat.le_of_ble_eq_true rfl)
  rw [lg_entry_eq]
  generalize (lg_sl ([.ref (la i 0)]) ++ List.replicate (1 - (lg_sl ([.ref (la i 0)])).length) Slot.unset).toArray = ls at hl ⊢
  have hin0 : ∀ w ∈ wsX00, w ∈ wsX0_payPart := by decide +kernel
  have hl : lv_has ls 1 [(0, .ref (la i 0))] := hl
  refine lv_aload_n hx hb dX0_payPart_0 rfl (lv_at hl 0 rfl) ?_
  refine lnG (i := i) (val := .int (L i 0 7)) hx hb hts hin0 hown hK (bk_ln hP hi) 7 (by decide) (hts (.fieldLink RX0 35 "FundBook$Loan" "paidParts" "I") (by decide +kernel)) rfl dX0_payPart_1 ?_
  refine lv_topE (z := nI pq) (hp) ?_
  refine lv_bipush (v := 6) hx hb dX0_payPart_4 (by decide) ?_
  refine lv_icmp_ge (tgt := 19) hx hb dX0_payPart_6 (by decide) (fun c_6 => ?_) (fun c_6 => ?_)
  · have h6 : ¬ pq < 6 := fun q => nI_ge q (by decide) c_6
    exact W.vret hx hb hr (fun t ht hW => ⟨⟨(), rfl, trivial, by rw [ht]; rw [bPP, if_neg h6]; exact hP, by rw [bPP, if_neg h6]; exact hD⟩, hS.F ht⟩) hS.2.2 dX0_payPart_19
  · have h6 : pq < 6 := n6lt c_6 (by omega)
    refine lv_aload_n hx hb dX0_payPart_9 rfl (lv_at hl 0 rfl) ?_
    refine lv_aload_n hx hb dX0_payPart_10 rfl (lv_at hl 0 rfl) ?_
    refine lnG (i := i) (val := .int (L i 0 7)) hx hb hts hin0 hown hK (bk_ln hP hi) 7 (by decide) (hts (.fieldLink RX0 35 "FundBook$Loan" "paidParts" "I") (by decide +kernel)) rfl dX0_payPart_11 ?_
    refine lv_topE (z := nI pq) (hp) ?_
    refine lv_iconst (v := 1) hx hb dX0_payPart_14 (by decide) ?_
    refine lv_iadd hx hb dX0_payPart_15 ?_
    refine lv_topE (z := nI (pq + 1)) (nI_1 pq) ?_
    refine lnS (i := i) (x := nI (pq + 1)) hx hb hts hin0 hown hK hP hD hS hi (hts (.fieldLink RX0 35 "FundBook$Loan" "paidParts" "I") (by decide +kernel)) dX0_payPart_16 (fun H locs hP hD hS => ?_)
    exact W.vret hx hb hr (fun t ht hW => ⟨⟨(), rfl, trivial, by rw [ht]; rw [bPP, if_pos h6]; exact hP, by rw [bPP, if_pos h6]; exact hD⟩, hS.F ht⟩) hS.2.2 dX0_payPart_19
set_option maxHeartbeats 4000000 in
set_option maxRecDepth 100000 in
theorem c_X0_settle (l : Launch) (G : va_G) (y : Nat → ClassId) (a : Nat → Nat) (b : MS) (n : Nat) (la : Nat → Nat → Nat) (L : LNS) (sz : Nat) (i : Nat) (hi : i < n) (pq : Nat) (hp : L i 0 7 = nI pq) (hp6 : pq ≤ 6) : Met l yX0_settle wsX0_settle ({ frames := 0, cells := 0, slots := 0, locals := 0 }) (mP G y [.ref (la i 0)] (bkW y a b n la L) sz) (mQ G (fun _ : Unit => none) (fun _ => True) (fun _ => bkW y a b n la (u3 L i (nI 6))) (va_A (bkW y a b n la L) sz)) 0 0 (va_A (bkW y a b n la L) sz) := by
  refine Met.ofW (cc := cX0_settle) (maxL := 1) (ret := none) (by decide) rfl ?_
  intro p e s m args below meth c s₁ B hml hv
  obtain ⟨rfl, hsz, hP, hK, hD0⟩ := hv
  have hx := B.exec
  have hb := B.bytes
  have hr := B.returns
  have hts := atoms_spec (ws := wsX0_settle) B.pre
  have hown : s.vm.findClass RX0 = some m.cls := findClass_of_methodNamed B.named
  have hlocks := B.notSynchronized
  subst hsz
  have hD := hD0.self (sz := s.heap.size)
  generalize hAe : va_A (bkW y a b n la L) s.heap.size = A at hD ⊢
  have hA : ∀ q : Nat, s.heap.size ≤ q → A q := fun q h => by rw [← hAe]; exact Or.inr h
  have hS : va_S A s.heap s.heap [] := va_S.rf
  have hP : va_P G vwCl (bkW y a b n la L) s.heap := hP
  have hl := lv_entry ([.ref (la i 0)]) (n := 1) (Nat.le_of_ble_eq_true rfl)
  rw [lg_entry_eq]
  generalize (lg_sl ([.ref (la i 0)]) ++ List.replicate (1 - (lg_sl ([.ref (la i 0)])).length) Slot.unset).toArray = ls at hl ⊢
  have hin0 : ∀ w ∈ wsX00, w ∈ wsX0_settle := by decide +kernel
  have hl : lv_has ls 1 [(0, .ref (la i 0))] := hl
  refine lv_aload_n hx hb dX0_settle_0 rfl (lv_at hl 0 rfl) ?_
  refine lv_bipush (v := 6) hx hb dX0_settle_1 (by decide) ?_
  refine lnS (i := i) (x := 6) hx hb hts hin0 hown hK hP hD hS hi (hts (.fieldLink RX0 35 "FundBook$Loan" "paidParts" "I") (by decide +kernel)) dX0_settle_3 (fun H locs hP hD hS => ?_)
  exact W.vret hx hb hr (fun t ht hW => ⟨⟨(), rfl, trivial, by rw [ht]; exact hP, by exact hD⟩, hS.F ht⟩) hS.2.2 dX0_settle_6
set_option maxHeartbeats 4000000 in
set_option maxRecDepth 100000 in
theorem c_X1_averageRate (l : Launch) (G : va_G) (y : Nat → ClassId) (a : Nat → Nat) (b : MS)  : Met l yX1_averageRate wsX1_averageRate ({ frames := 0, cells := 0, slots := 0, locals := 0 }) (rP G y [.ref (a 8)] (rpW y a b)) (QcV (.int (bAvg b))) 0 0 (fun _ => False) := by
  refine Met.ofW (cc := cX1_averageRate) (maxL := 6) (ret := (some .int)) (by decide) rfl ?_
  intro p e s m args below meth c s₁ B hml hv
  obtain ⟨rfl, hP, hK⟩ := hv
  have hx := B.exec
  have hb := B.bytes
  have hr := B.returns
  have hts := atoms_spec (ws := wsX1_averageRate) B.pre
  have hown : s.vm.findClass RX1 = some m.cls := findClass_of_methodNamed B.named
  have hlocks := B.notSynchronized
  have hl := lv_entry ([.ref (a 8)]) (n := 6) (Nat.le_of_ble_eq_true rfl)
  rw [lg_entry_eq]
  generalize (lg_sl ([.ref (a 8)]) ++ List.replicate (6 - (lg_sl ([.ref (a 8)])).length) Slot.unset).toArray = ls at hl ⊢
  have hin1 : ∀ w ∈ wsX10, w ∈ wsX1_averageRate := by decide +kernel
  have hl : lv_has ls 6 [(0, .ref (a 8))] := hl
  refine lv_lconst (v := 0) hx hb dX1_averageRate_0 (by decide) ?_
  refine lv_lstore_n (lv' := [(1, .long 0), (0, .ref (a 8))]) hx hb dX1_averageRate_1 rfl hl (by decide) rfl (fun ls hl => ?_)
  refine lv_lconst (v := 0) hx hb dX1_averageRate_2 (by decide) ?_
  refine lv_lstore_n (lv' := [(3, .long 0), (1, .long 0), (0, .ref (a 8))]) hx hb dX1_averageRate_3 rfl hl (by decide) rfl (fun ls hl => ?_)
  refine lv_iconst (v := 0) hx hb dX1_averageRate_4 (by decide) ?_
  refine lv_istore (lv' := [(5, .int 0), (3, .long 0), (1, .long 0), (0, .ref (a 8))]) hx hb dX1_averageRate_5 hl (by decide) rfl (fun ls hl => ?_)
  refine loopW (LV := fun k => [(0, .ref (a 8)), (1, .long (S64 (bAl b) k)), (3, .long (S64 (bWt b) k)), (5, .int (nI k))]) 6 (lv_sub hl [3, 2, 1, 0] rfl) (fun k ls hk_k hl ih_k => ?_) (fun ls hl => ?_)
  · have hl : lv_has ls 6 [(0, .ref (a 8)), (1, .long (S64 (bAl b) k)), (3, .long (S64 (bWt b) k)), (5, .int (nI k))] := hl
    refine lv_iload hx hb dX1_averageRate_7 (lv_at hl 3 rfl) ?_
    refine lv_bipush (v := 6) hx hb dX1_averageRate_9 (by decide) ?_
    refine lv_icmp_ge (tgt := 51) hx hb dX1_averageRate_11 (by decide) (fun c_11 => absurd c_11 (nI_ge hk_k (by decide))) (fun c_11 => ?_)
    refine lv_lload_n hx hb dX1_averageRate_14 rfl (lv_at hl 1 rfl) ?_
    refine lv_aload_n hx hb dX1_averageRate_15 rfl (lv_at hl 0 rfl) ?_
    refine rpG (val := .ref (a 14)) hx hb hts hin1 hown hK hP 0 (by decide) (hts (.fieldLink RX1 9 "FundBook$Replica" "amounts" "[I") (by decide +kernel)) rfl dX1_averageRate_16 ?_
    refine lv_iload hx hb dX1_averageRate_19 (lv_at hl 3 rfl) ?_
    refine ldI (f := b 14) hx hb hK hP 1 rfl k rfl (by omega) (by decide) dX1_averageRate_21 ?_
    refine lv_i2l hx hb dX1_averageRate_22 rfl ?_
    refine lv_ladd hx hb dX1_averageRate_23 ?_
    refine lv_topEl (z := S64 (bAl b) (k + 1)) (rfl) ?_
    refine lv_lstore_n (lv' := [(1, .long (S64 (bAl b) (k + 1))), (0, .ref (a 8)), (3, .long (S64 (bWt b) k)), (5, .int (nI k))]) hx hb dX1_averageRate_24 rfl hl (by decide) rfl (fun ls hl => ?_)
    refine lv_lload_n hx hb dX1_averageRate_25 rfl (lv_at hl 2 rfl) ?_
    refine lv_aload_n hx hb dX1_averageRate_26 rfl (lv_at hl 1 rfl) ?_
    refine rpG (val := .ref (a 14)) hx hb hts hin1 hown hK hP 0 (by decide) (hts (.fieldLink RX1 9 "FundBook$Replica" "amounts" "[I") (by decide +kernel)) rfl dX1_averageRate_27 ?_
    refine lv_iload hx hb dX1_averageRate_30 (lv_at hl 3 rfl) ?_
    refine ldI (f := b 14) hx hb hK hP 1 rfl k rfl (by omega) (by decide) dX1_averageRate_32 ?_
    refine lv_i2l hx hb dX1_averageRate_33 rfl ?_
    refine lv_aload_n hx hb dX1_averageRate_34 rfl (lv_at hl 1 rfl) ?_
    refine rpG (val := .ref (a 15)) hx hb hts hin1 hown hK hP 1 (by decide) (hts (.fieldLink RX1 15 "FundBook$Replica" "rates" "[I") (by decide +kernel)) rfl dX1_averageRate_35 ?_
    refine lv_iload hx hb dX1_averageRate_38 (lv_at hl 3 rfl) ?_
    refine ldI (f := b 15) hx hb hK hP 2 rfl k rfl (by omega) (by decide) dX1_averageRate_40 ?_
    refine lv_i2l hx hb dX1_averageRate_41 rfl ?_
    refine lv_lmul hx hb dX1_averageRate_42 ?_
    refine lv_ladd hx hb dX1_averageRate_43 ?_
    refine lv_topEl (z := S64 (bWt b) (k + 1)) (rfl) ?_
    refine lv_lstore_n (lv' := [(3, .long (S64 (bWt b) (k + 1))), (1, .long (S64 (bAl b) (k + 1))), (0, .ref (a 8)), (5, .int (nI k))]) hx hb dX1_averageRate_44 rfl hl (by decide) rfl (fun ls hl => ?_)
    refine lv_iinc (v := (nI (k + 1))) (lv' := [(5, .int (nI (k + 1))), (3, .long (S64 (bWt b) (k + 1))), (1, .long (S64 (bAl b) (k + 1))), (0, .ref (a 8))]) hx hb dX1_averageRate_45 hl (k := 3) rfl iinc1 (by decide) rfl (fun ls hl => ?_)
    refine lv_goto (tgt := 7) hx hb dX1_averageRate_48 (by decide) ?_
    exact ih_k ls (lv_sub hl [3, 2, 1, 0] rfl)
  · have hl : lv_has ls 6 [(0, .ref (a 8)), (1, .long (S64 (bAl b) 6)), (3, .long (S64 (bWt b) 6)), (5, .int (nI 6))] := hl
    refine lv_iload hx hb dX1_averageRate_7 (lv_at hl 3 rfl) ?_
    refine lv_bipush (v := 6) hx hb dX1_averageRate_9 (by decide) ?_
    refine lv_icmp_ge (tgt := 51) hx hb dX1_averageRate_11 (by decide) (fun c_11 => ?_) (fun c_11 => absurd (nI_le (Nat.le_refl 6) (by decide)) c_11)
    refine lv_lload_n hx hb dX1_averageRate_51 rfl (lv_at hl 1 rfl) ?_
    refine lv_lconst (v := 0) hx hb dX1_averageRate_52 (by decide) ?_
    refine W.lcmp hx hb dX1_averageRate_53 ?_
    refine lv_if_le (tgt := 64) hx hb dX1_averageRate_54 (by decide) (fun c_54 => ?_) (fun c_54 => ?_)
    · refine lv_iconst (v := 0) hx hb dX1_averageRate_64 (by decide) ?_
      exact W.iret (v := 0) hx hb hr (fun t ht hW => ⟨congrArg (fun z => Outcome.returned (some (.int z))) (by unfold bAvg; exact (if_pos c_54).symm), ht⟩) t_nil dX1_averageRate_65
    · refine lv_lload_n hx hb dX1_averageRate_57 rfl (lv_at hl 2 rfl) ?_
      refine lv_lload_n hx hb dX1_averageRate_58 rfl (lv_at hl 1 rfl) ?_
      refine lv_ldiv hx hb dX1_averageRate_59 (lcmp_ne (fun q => c_54 (by rw [q]; decide))) ?_
      refine lv_l2i hx hb dX1_averageRate_60 rfl ?_
      refine lv_goto (tgt := 65) hx hb dX1_averageRate_61 (by decide) ?_
      exact W.iret (v := (S64 (bWt b) 6 / S64 (bAl b) 6).toInt32) hx hb hr (fun t ht hW => ⟨congrArg (fun z => Outcome.returned (some (.int z))) (by unfold bAvg; exact (if_neg c_54).symm), ht⟩) t_nil dX1_averageRate_65
set_option maxHeartbeats 4000000 in
set_option maxRecDepth 100000 in
theorem c_X1_lay (l : Launch) (G : va_G) (y : Nat → ClassId) (a : Nat → Nat) (b : MS) (n : Nat) (la : Nat → Nat → Nat) (L : LNS) (sz : Nat) (k : Nat) (hk : k < 6) (am rt : Int32) : Met l yX1_lay wsX1_lay ({ frames := 0, cells := 0, slots := 0, locals := 0 }) (mP G y [.ref (a 8), .int (nI k), .int am, .int rt] (bkW y a b n la L) sz) (mQ G (fun _ : Unit => none) (fun _ => True) (fun _ => bkW y a (bLay b k am rt) n la L) (va_A (bkW y a b n la L) sz)) 0 0 (va_A (bkW y a b n la L) sz) := by
  refine Met.ofW (cc := cX1_lay) (maxL := 4) (ret := none) (by decide) rfl ?_
  intro p e s m args below meth c s₁ B hml hv
  obtain ⟨rfl, hsz, hP, hK, hD0⟩ := hv
  have hx := B.exec
  have hb := B.bytes
  have hr := B.returns
  have hts := atoms_spec (ws := wsX1_lay) B.pre
  have hown : s.vm.findClass RX1 = some m.cls := findClass_of_methodNamed B.named
  have hlocks := B.notSynchronized
  subst hsz
  have hD := hD0.self (sz := s.heap.size)
  generalize hAe : va_A (bkW y a b n la L) s.heap.size = A at hD ⊢
  have hA : ∀ q : Nat, s.heap.size ≤ q → A q := fun q h => by rw [← hAe]; exact Or.inr h
  have hS : va_S A s.heap s.heap [] := va_S.rf
  have hP : va_P G vwCl (bkW y a b n la L) s.heap := hP
  have hl := lv_entry ([.ref (a 8), .int (nI k), .int am, .int rt]) (n := 4) (Nat.le_of_ble_eq_true rfl)
  rw [lg_entry_eq]
  generalize (lg_sl ([.ref (a 8), .int (nI k), .int am, .int rt]) ++ List.replicate (4 - (lg_sl ([.ref (a 8), .int (nI k), .int am, .int rt])).length) Slot.unset).toArray = ls at hl ⊢
  have hin1 : ∀ w ∈ wsX10, w ∈ wsX1_lay := by decide +kernel
  have hl : lv_has ls 4 [(0, .ref (a 8)), (1, .int (nI k)), (2, .int am), (3, .int rt)] := hl
  refine lv_iload_n hx hb dX1_lay_0 rfl (lv_at hl 1 rfl) ?_
  refine lv_if_lt (tgt := 24) hx hb dX1_lay_1 (by decide) (fun c_1 => absurd c_1 (nI_pos (by omega))) (fun c_1 => ?_)
  refine lv_iload_n hx hb dX1_lay_4 rfl (lv_at hl 1 rfl) ?_
  refine lv_bipush (v := 6) hx hb dX1_lay_5 (by decide) ?_
  refine lv_icmp_ge (tgt := 24) hx hb dX1_lay_7 (by decide) (fun c_7 => absurd c_7 (nI_ge hk (by decide))) (fun c_7 => ?_)
  refine lv_aload_n hx hb dX1_lay_10 rfl (lv_at hl 0 rfl) ?_
  refine rpG (val := .ref (a 14)) hx hb hts hin1 hown hK (bk_rp hP) 0 (by decide) (hts (.fieldLink RX1 9 "FundBook$Replica" "amounts" "[I") (by decide +kernel)) rfl dX1_lay_11 ?_
  refine lv_iload_n hx hb dX1_lay_14 rfl (lv_at hl 1 rfl) ?_
  refine lv_iload_n hx hb dX1_lay_15 rfl (lv_at hl 2 rfl) ?_
  refine stI (f := b 14) (ws1 := bkW y a (u2 b 14 k am) n la L) hx hb hK hP hD hS 5 bg_14 k rfl (by omega) (by decide) bs_14 dX1_lay_16 (fun H locs hP hD hS => ?_)
  refine lv_aload_n hx hb dX1_lay_17 rfl (lv_at hl 0 rfl) ?_
  refine rpG (val := .ref (a 15)) hx hb hts hin1 hown hK (bk_rp hP) 1 (by decide) (hts (.fieldLink RX1 15 "FundBook$Replica" "rates" "[I") (by decide +kernel)) rfl dX1_lay_18 ?_
  refine lv_iload_n hx hb dX1_lay_21 rfl (lv_at hl 1 rfl) ?_
  refine lv_iload_n hx hb dX1_lay_22 rfl (lv_at hl 3 rfl) ?_
  refine stI (f := (u2 b 14 k am) 15) (ws1 := bkW y a (u2 (u2 b 14 k am) 15 k rt) n la L) hx hb hK hP hD hS 6 bg_15 k rfl (by omega) (by decide) bs_15 dX1_lay_23 (fun H locs hP hD hS => ?_)
  exact W.vret hx hb hr (fun t ht hW => ⟨⟨(), rfl, trivial, by rw [ht]; exact hP, by exact hD⟩, hS.F ht⟩) hS.2.2 dX1_lay_24
set_option maxHeartbeats 4000000 in
set_option maxRecDepth 100000 in
theorem c_X1_layAll (l : Launch) (G : va_G) (y : Nat → ClassId) (a : Nat → Nat) (b : MS) (n : Nat) (la : Nat → Nat → Nat) (L : LNS) (sz : Nat) (am rt : Int32) : Met l yX1_layAll wsX1_layAll ({ frames := 1, cells := 0, slots := 0, locals := 23 }) (mP G y [.ref (a 8), .int am, .int rt] (bkW y a b n la L) sz) (mQ G (fun _ : Unit => none) (fun _ => True) (fun _ => bkW y a (bLA b am rt 6) n la L) (va_A (bkW y a b n la L) sz)) 0 0 (va_A (bkW y a b n la L) sz) := by
  refine Met.ofW (cc := cX1_layAll) (maxL := 4) (ret := none) (by decide) rfl ?_
  intro p e s m args below meth c s₁ B hml hv
  obtain ⟨rfl, hsz, hP, hK, hD0⟩ := hv
  have hx := B.exec
  have hb := B.bytes
  have hr := B.returns
  have hts := atoms_spec (ws := wsX1_layAll) B.pre
  have hown : s.vm.findClass RX1 = some m.cls := findClass_of_methodNamed B.named
  have hlocks := B.notSynchronized
  subst hsz
  have hD := hD0.self (sz := s.heap.size)
  generalize hAe : va_A (bkW y a b n la L) s.heap.size = A at hD ⊢
  have hA : ∀ q : Nat, s.heap.size ≤ q → A q := fun q h => by rw [← hAe]; exact Or.inr h
  have hS : va_S A s.heap s.heap [] := va_S.rf
  have hP : va_P G vwCl (bkW y a b n la L) s.heap := hP
  have hl := lv_entry ([.ref (a 8), .int am, .int rt]) (n := 4) (Nat.le_of_ble_eq_true rfl)
  rw [lg_entry_eq]
  generalize (lg_sl ([.ref (a 8), .int am, .int rt]) ++ List.replicate (4 - (lg_sl ([.ref (a 8), .int am, .int rt])).length) Slot.unset).toArray = ls at hl ⊢
  have hl : lv_has ls 4 [(0, .ref (a 8)), (1, .int am), (2, .int rt)] := hl
  refine lv_iconst (v := 0) hx hb dX1_layAll_0 (by decide) ?_
  refine lv_istore_n (lv' := [(3, .int 0), (0, .ref (a 8)), (1, .int am), (2, .int rt)]) hx hb dX1_layAll_1 rfl hl (by decide) rfl (fun ls hl => ?_)
  refine loopM (LV := fun k => [(0, .ref (a 8)), (1, .int am), (2, .int rt), (3, .int (nI k))]) (WS := fun k => bkW y a (bLA b am rt k) n la L) 6 hP hD hS (lv_sub hl [1, 2, 3, 0] rfl) (fun k H locs ls hk_k hP hD hS hl ih_k => ?_) (fun H locs ls hP hD hS hl => ?_)
  · have hl : lv_has ls 4 [(0, .ref (a 8)), (1, .int am), (2, .int rt), (3, .int (nI k))] := hl
    have hP : va_P G vwCl (bkW y a (bLA b am rt k) n la L) H := hP
    have hD : va_D A (bkW y a (bLA b am rt k) n la L) := hD
    refine lv_iload_n hx hb dX1_layAll_2 rfl (lv_at hl 3 rfl) ?_
    refine lv_bipush (v := 6) hx hb dX1_layAll_3 (by decide) ?_
    refine lv_icmp_ge (tgt := 21) hx hb dX1_layAll_5 (by decide) (fun c_5 => absurd c_5 (nI_ge hk_k (by decide))) (fun c_5 => ?_)
    refine lv_aload_n hx hb dX1_layAll_8 rfl (lv_at hl 0 rfl) ?_
    refine lv_iload_n hx hb dX1_layAll_9 rfl (lv_at hl 3 rfl) ?_
    refine lv_iload_n hx hb dX1_layAll_10 rfl (lv_at hl 1 rfl) ?_
    refine lv_iload_n hx hb dX1_layAll_11 rfl (lv_at hl 2 rfl) ?_
    refine caM (va_runV (As := [.int (nI k), .int am, .int rt]) (rest := []) ⟨hx, hb, hml, hown, hts⟩ (c_X1_lay l G y a (bLA b am rt k) n la L H.size k hk_k am rt) (cwV 3 hts gX1_layAll_X1_lay rfl rfl rfl (by decide +kernel) ⟨Nat.le_of_ble_eq_true rfl, Nat.le_of_ble_eq_true rfl⟩) ⟨mP_bl, va_recv hK.1 hP (ci := 1) (q0 := 4) rfl rfl, fun U hU hW => ⟨rfl, by rw [hU], by rw [hU]; exact hP, Kb.moved hW hK, hD.weaken (fun _ _ _ _ => trivial)⟩⟩ rfl rfl hl.1 rfl (lv_room (Nat.le_of_ble_eq_true rfl)) dX1_layAll_12 ⟨Nat.le_of_ble_eq_true rfl, Nat.le_of_ble_eq_true rfl⟩) hS (freeW hD hS hA) (freeW hD hS hA) (fun _ H locs _ hP hD _ _ hS => ?_)
    refine W.eq (g2 := F0 m 15 ls []) rfl ?_
    have hP : va_P G vwCl (bkW y a (bLay (bLA b am rt k) k am rt) n la L) H := hP
    have hD : va_D A (bkW y a (bLay (bLA b am rt k) k am rt) n la L) := hD
    refine lv_iinc (v := (nI (k + 1))) (lv' := [(3, .int (nI (k + 1))), (0, .ref (a 8)), (1, .int am), (2, .int rt)]) hx hb dX1_layAll_15 hl (k := 3) rfl iinc1 (by decide) rfl (fun ls hl => ?_)
    refine lv_goto (tgt := 2) hx hb dX1_layAll_18 (by decide) ?_
    exact ih_k _ _ ls hP hD hS (lv_sub hl [1, 2, 3, 0] rfl)
  · have hl : lv_has ls 4 [(0, .ref (a 8)), (1, .int am), (2, .int rt), (3, .int (nI 6))] := hl
    have hP : va_P G vwCl (bkW y a (bLA b am rt 6) n la L) H := hP
    have hD : va_D A (bkW y a (bLA b am rt 6) n la L) := hD
    refine lv_iload_n hx hb dX1_layAll_2 rfl (lv_at hl 3 rfl) ?_
    refine lv_bipush (v := 6) hx hb dX1_layAll_3 (by decide) ?_
    refine lv_icmp_ge (tgt := 21) hx hb dX1_layAll_5 (by decide) (fun c_5 => ?_) (fun c_5 => absurd (nI_le (Nat.le_refl 6) (by decide)) c_5)
    exact W.vret hx hb hr (fun t ht hW => ⟨⟨(), rfl, trivial, by rw [ht]; exact hP, by exact hD⟩, hS.F ht⟩) hS.2.2 dX1_layAll_21
set_option maxHeartbeats 4000000 in
set_option maxRecDepth 100000 in
theorem c_X2_coreOf (l : Launch) (G : va_G) (y : Nat → ClassId) (a : Nat → Nat) (b : MS) (n : Nat) (la : Nat → Nat → Nat) (L : LNS) (x : Int64) : Met l yX2_coreOf wsX2_coreOf ({ frames := 0, cells := 0, slots := 0, locals := 0 }) (rP G y [.ref (a 13), .long x] (bkW y a b n la L)) (QcV (.int (bCo b x))) 0 0 (fun _ => False) := by
  refine Met.ofW (cc := cX2_coreOf) (maxL := 3) (ret := (some .int)) (by decide) rfl ?_
  intro p e s m args below meth c s₁ B hml hv
  obtain ⟨rfl, hP, hK⟩ := hv
  have hx := B.exec
  have hb := B.bytes
  have hr := B.returns
  have hts := atoms_spec (ws := wsX2_coreOf) B.pre
  have hown : s.vm.findClass RX2 = some m.cls := findClass_of_methodNamed B.named
  have hlocks := B.notSynchronized
  have hl := lv_entry ([.ref (a 13), .long x]) (n := 3) (Nat.le_of_ble_eq_true rfl)
  rw [lg_entry_eq]
  generalize (lg_sl ([.ref (a 13), .long x]) ++ List.replicate (3 - (lg_sl ([.ref (a 13), .long x])).length) Slot.unset).toArray = ls at hl ⊢
  have hin2 : ∀ w ∈ wsX20, w ∈ wsX2_coreOf := by decide +kernel
  have hl : lv_has ls 3 [(0, .ref (a 13)), (1, .long x)] := hl
  refine lv_lload_n hx hb dX2_coreOf_0 rfl (lv_at hl 1 rfl) ?_
  refine lv_aload_n hx hb dX2_coreOf_1 rfl (lv_at hl 0 rfl) ?_
  refine bkG (b := b) (val := .int (b 13 3)) hx hb hts hin2 hown hK hP 3 (by decide) (hts (.fieldLink RX2 20 "FundBook" "coreShare" "I") (by decide +kernel)) rfl dX2_coreOf_2 ?_
  refine lv_i2l hx hb dX2_coreOf_5 rfl ?_
  refine lv_lmul hx hb dX2_coreOf_6 ?_
  refine lv_ldc2 (v := 100) hx hb hown (hts (.constantLong RX2 189 100) (by decide +kernel)) dX2_coreOf_7 ?_
  refine lv_ldiv hx hb dX2_coreOf_10 (by decide) ?_
  refine lv_l2i hx hb dX2_coreOf_11 rfl ?_
  exact W.iret (v := ((x * (b 13 3).toInt64) / 100).toInt32) hx hb hr (fun t ht hW => ⟨congrArg (fun z => Outcome.returned (some (.int z))) (rfl), ht⟩) t_nil dX2_coreOf_12
set_option maxHeartbeats 4000000 in
set_option maxRecDepth 100000 in
theorem c_X2_trancheAmount (l : Launch) (G : va_G) (y : Nat → ClassId) (a : Nat → Nat) (b : MS) (n : Nat) (la : Nat → Nat → Nat) (L : LNS)  : Met l yX2_trancheAmount wsX2_trancheAmount ({ frames := 1, cells := 0, slots := 0, locals := 22 }) (rP G y [.ref (a 13)] (bkW y a b n la L)) (QcV (.int (bTA b))) 0 0 (fun _ => False) := by
  refine Met.ofW (cc := cX2_trancheAmount) (maxL := 7) (ret := (some .int)) (by decide) rfl ?_
  intro p e s m args below meth c s₁ B hml hv
  obtain ⟨rfl, hP, hK⟩ := hv
  have hx := B.exec
  have hb := B.bytes
  have hr := B.returns
  have hts := atoms_spec (ws := wsX2_trancheAmount) B.pre
  have hown : s.vm.findClass RX2 = some m.cls := findClass_of_methodNamed B.named
  have hlocks := B.notSynchronized
  have hl := lv_entry ([.ref (a 13)]) (n := 7) (Nat.le_of_ble_eq_true rfl)
  rw [lg_entry_eq]
  generalize (lg_sl ([.ref (a 13)]) ++ List.replicate (7 - (lg_sl ([.ref (a 13)])).length) Slot.unset).toArray = ls at hl ⊢
  have hin2 : ∀ w ∈ wsX20, w ∈ wsX2_trancheAmount := by decide +kernel
  have hl : lv_has ls 7 [(0, .ref (a 13))] := hl
  refine lv_lconst (v := 0) hx hb dX2_trancheAmount_0 (by decide) ?_
  refine lv_lstore_n (lv' := [(1, .long 0), (0, .ref (a 13))]) hx hb dX2_trancheAmount_1 rfl hl (by decide) rfl (fun ls hl => ?_)
  refine lv_aload_n hx hb dX2_trancheAmount_2 rfl (lv_at hl 1 rfl) ?_
  refine bkG (b := b) (val := .ref (a 7)) hx hb hts hin2 hown hK hP 7 (by decide) (hts (.fieldLink RX2 35 "FundBook" "balances" "[I") (by decide +kernel)) rfl dX2_trancheAmount_3 ?_
  refine lv_astore_n (lv' := [(3, .ref (a 7)), (1, .long 0), (0, .ref (a 13))]) hx hb dX2_trancheAmount_6 rfl hl (by decide) rfl (fun ls hl => ?_)
  refine lv_aload_n hx hb dX2_trancheAmount_7 rfl (lv_at hl 0 rfl) ?_
  refine va_alen (v := 3) hx hb hK.1 hP 3 0 bg_7 rfl rfl dX2_trancheAmount_8 ?_
  refine lv_istore (lv' := [(4, .int 3), (3, .ref (a 7)), (1, .long 0), (0, .ref (a 13))]) hx hb dX2_trancheAmount_9 hl (by decide) rfl (fun ls hl => ?_)
  refine lv_iconst (v := 0) hx hb dX2_trancheAmount_11 (by decide) ?_
  refine lv_istore (lv' := [(5, .int 0), (4, .int 3), (3, .ref (a 7)), (1, .long 0), (0, .ref (a 13))]) hx hb dX2_trancheAmount_12 hl (by decide) rfl (fun ls hl => ?_)
  refine loopW (LV := fun k => [(0, .ref (a 13)), (3, .ref (a 7)), (4, .int 3), (1, .long (S64 (fun j => (b 7 j).toInt64) k)), (5, .int (nI k))]) 3 (lv_sub hl [4, 2, 1, 3, 0] rfl) (fun k ls hk_k hl ih_k => ?_) (fun ls hl => ?_)
  · have hl : lv_has ls 7 [(0, .ref (a 13)), (3, .ref (a 7)), (4, .int 3), (1, .long (S64 (fun j => (b 7 j).toInt64) k)), (5, .int (nI k))] := hl
    refine lv_iload hx hb dX2_trancheAmount_14 (lv_at hl 4 rfl) ?_
    refine lv_iload hx hb dX2_trancheAmount_16 (lv_at hl 2 rfl) ?_
    refine lv_icmp_ge (tgt := 39) hx hb dX2_trancheAmount_18 (by decide) (fun c_18 => absurd c_18 (nI_ge hk_k (by decide))) (fun c_18 => ?_)
    refine lv_aload_n hx hb dX2_trancheAmount_21 rfl (lv_at hl 1 rfl) ?_
    refine lv_iload hx hb dX2_trancheAmount_22 (lv_at hl 4 rfl) ?_
    refine ldI (f := b 7) hx hb hK hP 3 bg_7 k rfl (by omega) (by decide) dX2_trancheAmount_24 ?_
    refine lv_istore (lv' := [(6, .int (b 7 k)), (0, .ref (a 13)), (3, .ref (a 7)), (4, .int 3), (1, .long (S64 (fun j => (b 7 j).toInt64) k)), (5, .int (nI k))]) hx hb dX2_trancheAmount_25 hl (by decide) rfl (fun ls hl => ?_)
    refine lv_lload_n hx hb dX2_trancheAmount_27 rfl (lv_at hl 4 rfl) ?_
    refine lv_iload hx hb dX2_trancheAmount_28 (lv_at hl 0 rfl) ?_
    refine lv_i2l hx hb dX2_trancheAmount_30 rfl ?_
    refine lv_ladd hx hb dX2_trancheAmount_31 ?_
    refine lv_topEl (z := S64 (fun j => (b 7 j).toInt64) (k + 1)) (rfl) ?_
    refine lv_lstore_n (lv' := [(1, .long (S64 (fun j => (b 7 j).toInt64) (k + 1))), (6, .int (b 7 k)), (0, .ref (a 13)), (3, .ref (a 7)), (4, .int 3), (5, .int (nI k))]) hx hb dX2_trancheAmount_32 rfl hl (by decide) rfl (fun ls hl => ?_)
    refine lv_iinc (v := (nI (k + 1))) (lv' := [(5, .int (nI (k + 1))), (1, .long (S64 (fun j => (b 7 j).toInt64) (k + 1))), (6, .int (b 7 k)), (0, .ref (a 13)), (3, .ref (a 7)), (4, .int 3)]) hx hb dX2_trancheAmount_33 hl (k := 5) rfl iinc1 (by decide) rfl (fun ls hl => ?_)
    refine lv_goto (tgt := 14) hx hb dX2_trancheAmount_36 (by decide) ?_
    exact ih_k ls (lv_sub hl [3, 4, 5, 1, 0] rfl)
  · have hl : lv_has ls 7 [(0, .ref (a 13)), (3, .ref (a 7)), (4, .int 3), (1, .long (S64 (fun j => (b 7 j).toInt64) 3)), (5, .int (nI 3))] := hl
    refine lv_iload hx hb dX2_trancheAmount_14 (lv_at hl 4 rfl) ?_
    refine lv_iload hx hb dX2_trancheAmount_16 (lv_at hl 2 rfl) ?_
    refine lv_icmp_ge (tgt := 39) hx hb dX2_trancheAmount_18 (by decide) (fun c_18 => ?_) (fun c_18 => absurd (nI_le (Nat.le_refl 3) (by decide)) c_18)
    refine lv_aload_n hx hb dX2_trancheAmount_39 rfl (lv_at hl 0 rfl) ?_
    refine lv_lload_n hx hb dX2_trancheAmount_40 rfl (lv_at hl 3 rfl) ?_
    refine caR (r := .int (bCo b (S64 (fun j => (b 7 j).toInt64) 3))) (va_runV (As := [.long (S64 (fun j => (b 7 j).toInt64) 3)]) (rest := []) ⟨hx, hb, hml, hown, hts⟩ (c_X2_coreOf l G y a b n la L _) (cwV 1 hts gX2_trancheAmount_X2_coreOf rfl rfl rfl (by decide +kernel) ⟨Nat.le_of_ble_eq_true rfl, Nat.le_of_ble_eq_true rfl⟩) ⟨rP_bl, va_recv hK.1 hP (ci := 2) (q0 := 0) rfl rfl, fun U hU hW => ⟨rfl, by rw [hU]; exact hP, Kb.moved hW hK⟩⟩ rfl rfl hl.1 rfl (lv_room (Nat.le_of_ble_eq_true rfl)) dX2_trancheAmount_41 ⟨Nat.le_of_ble_eq_true rfl, Nat.le_of_ble_eq_true rfl⟩) ?_
    refine lv_bipush (v := 6) hx hb dX2_trancheAmount_44 (by decide) ?_
    refine lv_idiv hx hb dX2_trancheAmount_46 (by decide) ?_
    exact W.iret (v := (bCo b (S64 (fun j => (b 7 j).toInt64) 3) / 6)) hx hb hr (fun t ht hW => ⟨congrArg (fun z => Outcome.returned (some (.int z))) (rfl), ht⟩) t_nil dX2_trancheAmount_47
set_option maxHeartbeats 4000000 in
set_option maxRecDepth 100000 in
theorem c_X2_paidForDeposits (l : Launch) (G : va_G) (y : Nat → ClassId) (a : Nat → Nat) (b : MS) (n : Nat) (la : Nat → Nat → Nat) (L : LNS) (x r : Int32) : Met l yX2_paidForDeposits wsX2_paidForDeposits ({ frames := 1, cells := 0, slots := 0, locals := 22 }) (rP G y [.ref (a 13), .int x, .int r] (bkW y a b n la L)) (QcV (.int (bPd b x r))) 0 0 (fun _ => False) := by
  refine Met.ofW (cc := cX2_paidForDeposits) (maxL := 5) (ret := (some .int)) (by decide) rfl ?_
  intro p e s m args below meth c s₁ B hml hv
  obtain ⟨rfl, hP, hK⟩ := hv
  have hx := B.exec
  have hb := B.bytes
  have hr := B.returns
  have hts := atoms_spec (ws := wsX2_paidForDeposits) B.pre
  have hown : s.vm.findClass RX2 = some m.cls := findClass_of_methodNamed B.named
  have hlocks := B.notSynchronized
  have hl := lv_entry ([.ref (a 13), .int x, .int r]) (n := 5) (Nat.le_of_ble_eq_true rfl)
  rw [lg_entry_eq]
  generalize (lg_sl ([.ref (a 13), .int x, .int r]) ++ List.replicate (5 - (lg_sl ([.ref (a 13), .int x, .int r])).length) Slot.unset).toArray = ls at hl ⊢
  have hin2 : ∀ w ∈ wsX20, w ∈ wsX2_paidForDeposits := by decide +kernel
  have hl : lv_has ls 5 [(0, .ref (a 13)), (1, .int x), (2, .int r)] := hl
  refine lv_aload_n hx hb dX2_paidForDeposits_0 rfl (lv_at hl 0 rfl) ?_
  refine lv_iload_n hx hb dX2_paidForDeposits_1 rfl (lv_at hl 1 rfl) ?_
  refine lv_i2l hx hb dX2_paidForDeposits_2 rfl ?_
  refine caR (r := .int (bCo b x.toInt64)) (va_runV (As := [.long x.toInt64]) (rest := []) ⟨hx, hb, hml, hown, hts⟩ (c_X2_coreOf l G y a b n la L _) (cwV 1 hts gX2_paidForDeposits_X2_coreOf rfl rfl rfl (by decide +kernel) ⟨Nat.le_of_ble_eq_true rfl, Nat.le_of_ble_eq_true rfl⟩) ⟨rP_bl, va_recv hK.1 hP (ci := 2) (q0 := 0) rfl rfl, fun U hU hW => ⟨rfl, by rw [hU]; exact hP, Kb.moved hW hK⟩⟩ rfl rfl hl.1 rfl (lv_room (Nat.le_of_ble_eq_true rfl)) dX2_paidForDeposits_3 ⟨Nat.le_of_ble_eq_true rfl, Nat.le_of_ble_eq_true rfl⟩) ?_
  refine lv_istore_n (lv' := [(3, .int (bCo b x.toInt64)), (0, .ref (a 13)), (1, .int x), (2, .int r)]) hx hb dX2_paidForDeposits_6 rfl hl (by decide) rfl (fun ls hl => ?_)
  refine lv_iload_n hx hb dX2_paidForDeposits_7 rfl (lv_at hl 2 rfl) ?_
  refine lv_iload_n hx hb dX2_paidForDeposits_8 rfl (lv_at hl 0 rfl) ?_
  refine lv_isub hx hb dX2_paidForDeposits_9 ?_
  refine lv_istore (lv' := [(4, .int (x - bCo b x.toInt64)), (3, .int (bCo b x.toInt64)), (0, .ref (a 13)), (1, .int x), (2, .int r)]) hx hb dX2_paidForDeposits_10 hl (by decide) rfl (fun ls hl => ?_)
  refine lv_iload_n hx hb dX2_paidForDeposits_12 rfl (lv_at hl 1 rfl) ?_
  refine lv_i2l hx hb dX2_paidForDeposits_13 rfl ?_
  refine lv_iload_n hx hb dX2_paidForDeposits_14 rfl (lv_at hl 4 rfl) ?_
  refine lv_i2l hx hb dX2_paidForDeposits_15 rfl ?_
  refine lv_lmul hx hb dX2_paidForDeposits_16 ?_
  refine lv_iload hx hb dX2_paidForDeposits_17 (lv_at hl 0 rfl) ?_
  refine lv_i2l hx hb dX2_paidForDeposits_19 rfl ?_
  refine lv_aload_n hx hb dX2_paidForDeposits_20 rfl (lv_at hl 2 rfl) ?_
  refine bkG (b := b) (val := .ref (a 0)) hx hb hts hin2 hown hK hP 0 (by decide) (hts (.fieldLink RX2 9 "FundBook" "curve" "[I") (by decide +kernel)) rfl dX2_paidForDeposits_21 ?_
  refine lv_iconst (v := 0) hx hb dX2_paidForDeposits_24 (by decide) ?_
  refine ldI (f := b 0) hx hb hK hP 1 bg_0 0 rfl (by decide) (by decide) dX2_paidForDeposits_25 ?_
  refine lv_i2l hx hb dX2_paidForDeposits_26 rfl ?_
  refine lv_lmul hx hb dX2_paidForDeposits_27 ?_
  refine lv_ladd hx hb dX2_paidForDeposits_28 ?_
  refine caR (r := .int (bPd b x r)) (va_runS (As := [.long (((bCo b x.toInt64).toInt64 * r.toInt64) + ((x - bCo b x.toInt64).toInt64 * (b 0 0).toInt64))]) (rest := []) ⟨hx, hb, hml, hown, hts⟩ (c_X2_forOneMonth l _) (va_cwS 1 hts gX2_paidForDeposits_X2_forOneMonth rfl rfl rfl (by decide +kernel) ⟨Nat.le_of_ble_eq_true rfl, Nat.le_of_ble_eq_true rfl⟩) ⟨nP_bl, fun _ _ _ => ⟨rfl, trivial⟩⟩ rfl rfl hl.1 rfl (lv_room (Nat.le_of_ble_eq_true rfl)) dX2_paidForDeposits_29 ⟨Nat.le_of_ble_eq_true rfl, Nat.le_of_ble_eq_true rfl⟩) ?_
  exact W.iret (v := bPd b x r) hx hb hr (fun t ht hW => ⟨congrArg (fun z => Outcome.returned (some (.int z))) (rfl), ht⟩) t_nil dX2_paidForDeposits_32
set_option maxHeartbeats 4000000 in
set_option maxRecDepth 100000 in
theorem c_X2_hasEnded (l : Launch) (G : va_G) (y : Nat → ClassId) (a : Nat → Nat) (b : MS) (n : Nat) (la : Nat → Nat → Nat) (L : LNS) (t : Nat) (ht : b 13 4 = nI t) (ht47 : t ≤ 47) (x : Int32) : Met l yX2_hasEnded wsX2_hasEnded ({ frames := 0, cells := 0, slots := 0, locals := 0 }) (rP G y [.ref (a 13), .int x] (bkW y a b n la L)) (QcV (.int (bEn t x))) 0 0 (fun _ => False) := by
  refine Met.ofW (cc := cX2_hasEnded) (maxL := 2) (ret := (some .boolean)) (by decide) rfl ?_
  intro p e s m args below meth c s₁ B hml hv
  obtain ⟨rfl, hP, hK⟩ := hv
  have hx := B.exec
  have hb := B.bytes
  have hr := B.returns
  have hts := atoms_spec (ws := wsX2_hasEnded) B.pre
  have hown : s.vm.findClass RX2 = some m.cls := findClass_of_methodNamed B.named
  have hlocks := B.notSynchronized
  have hl := lv_entry ([.ref (a 13), .int x]) (n := 2) (Nat.le_of_ble_eq_true rfl)
  rw [lg_entry_eq]
  generalize (lg_sl ([.ref (a 13), .int x]) ++ List.replicate (2 - (lg_sl ([.ref (a 13), .int x])).length) Slot.unset).toArray = ls at hl ⊢
  have hin2 : ∀ w ∈ wsX20, w ∈ wsX2_hasEnded := by decide +kernel
  have hl : lv_has ls 2 [(0, .ref (a 13)), (1, .int x)] := hl
  refine lv_iload_n hx hb dX2_hasEnded_0 rfl (lv_at hl 1 rfl) ?_
  refine lv_if_lt (tgt := 16) hx hb dX2_hasEnded_1 (by decide) (fun c_1 => ?_) (fun c_1 => ?_)
  · refine lv_iconst (v := 0) hx hb dX2_hasEnded_16 (by decide) ?_
    exact W.zret (v := 0) hx hb hr rfl (fun t ht hW => ⟨congrArg (fun z => Outcome.returned (some (.int z))) (by unfold bEn; exact ((if_pos c_1)).symm), ht⟩) t_nil dX2_hasEnded_17
  · refine lv_iload_n hx hb dX2_hasEnded_4 rfl (lv_at hl 1 rfl) ?_
    refine lv_aload_n hx hb dX2_hasEnded_5 rfl (lv_at hl 0 rfl) ?_
    refine bkG (b := b) (val := .int (b 13 4)) hx hb hts hin2 hown hK hP 4 (by decide) (hts (.fieldLink RX2 23 "FundBook" "now" "I") (by decide +kernel)) rfl dX2_hasEnded_6 ?_
    refine lv_topE (z := nI t) (ht) ?_
    refine lv_icmp_ge (tgt := 16) hx hb dX2_hasEnded_9 (by decide) (fun c_9 => ?_) (fun c_9 => ?_)
    · refine lv_iconst (v := 0) hx hb dX2_hasEnded_16 (by decide) ?_
      exact W.zret (v := 0) hx hb hr rfl (fun t ht hW => ⟨congrArg (fun z => Outcome.returned (some (.int z))) (by unfold bEn; exact ((if_neg c_1).trans ((if_pos c_9))).symm), ht⟩) t_nil dX2_hasEnded_17
    · refine lv_iconst (v := 1) hx hb dX2_hasEnded_12 (by decide) ?_
      refine lv_goto (tgt := 17) hx hb dX2_hasEnded_13 (by decide) ?_
      exact W.zret (v := 1) hx hb hr rfl (fun t ht hW => ⟨congrArg (fun z => Outcome.returned (some (.int z))) (by unfold bEn; exact ((if_neg c_1).trans ((if_neg c_9))).symm), ht⟩) t_nil dX2_hasEnded_17
set_option maxHeartbeats 4000000 in
set_option maxRecDepth 100000 in
theorem c_X2_findLoan (l : Launch) (G : va_G) (y : Nat → ClassId) (a : Nat → Nat) (b : MS) (n : Nat) (la : Nat → Nat → Nat) (L : LNS) (x : Int32) : Met l yX2_findLoan wsX2_findLoan ({ frames := 0, cells := 0, slots := 0, locals := 0 }) (rP G y [.ref (a 13), .int x] (bkW y a b n la L)) (QcV (va_rf (bFind n la x))) 0 0 (fun _ => False) := by
  refine Met.ofW (cc := cX2_findLoan) (maxL := 2) (ret := (some (.object "FundBook$Loan"))) (by decide) rfl ?_
  intro p e s m args below meth c s₁ B hml hv
  obtain ⟨rfl, hP, hK⟩ := hv
  have hx := B.exec
  have hb := B.bytes
  have hr := B.returns
  have hts := atoms_spec (ws := wsX2_findLoan) B.pre
  have hown : s.vm.findClass RX2 = some m.cls := findClass_of_methodNamed B.named
  have hlocks := B.notSynchronized
  have hl := lv_entry ([.ref (a 13), .int x]) (n := 2) (Nat.le_of_ble_eq_true rfl)
  rw [lg_entry_eq]
  generalize (lg_sl ([.ref (a 13), .int x]) ++ List.replicate (2 - (lg_sl ([.ref (a 13), .int x])).length) Slot.unset).toArray = ls at hl ⊢
  have hin2 : ∀ w ∈ wsX20, w ∈ wsX2_findLoan := by decide +kernel
  have hl : lv_has ls 2 [(0, .ref (a 13)), (1, .int x)] := hl
  refine lv_iload_n hx hb dX2_findLoan_0 rfl (lv_at hl 1 rfl) ?_
  refine lv_if_lt (tgt := 10) hx hb dX2_findLoan_1 (by decide) (fun c_1 => ?_) (fun c_1 => ?_)
  · refine lv_null hx hb dX2_findLoan_10 ?_
    refine lv_goto (tgt := 20) hx hb dX2_findLoan_11 (by decide) ?_
    have ev : bFind n la x = none := by unfold bFind; exact (if_pos c_1)
    exact W.aret (v := .null) hx hb hr (Or.inl ⟨_, rfl⟩) (Or.inl rfl) (fun t ht hW => ⟨by rw [ev]; rfl, ht⟩) t_nil dX2_findLoan_20
  · refine lv_iload_n hx hb dX2_findLoan_4 rfl (lv_at hl 1 rfl) ?_
    refine lv_bipush (v := 24) hx hb dX2_findLoan_5 (by decide) ?_
    refine lv_icmp_lt (tgt := 14) hx hb dX2_findLoan_7 (by decide) (fun c_7 => ?_) (fun c_7 => ?_)
    · have h24 : cn x < 24 := cl_lt (M := 24) c_1 (Int32.not_le.mpr c_7) (by decide)
      refine lv_aload_n hx hb dX2_findLoan_14 rfl (lv_at hl 0 rfl) ?_
      refine bkG (b := b) (val := .ref (a 5)) hx hb hts hin2 hown hK hP 5 (by decide) (hts (.fieldLink RX2 28 "FundBook" "loanRows" "[LFundBook$Loan;") (by decide +kernel)) rfl dX2_findLoan_15 ?_
      refine lv_iload_n hx hb dX2_findLoan_18 rfl (lv_at hl 1 rfl) ?_
      refine lv_topE (z := nI (cn x)) (cl_nI c_1) ?_
      refine ldQ (f := lrF n la) hx hb hK hP 2 bg_5 (cn x) rfl (by omega) (by decide) dX2_findLoan_19 ?_
      have ev : bFind n la x = lrF n la (cn x) := by unfold bFind; exact (if_neg c_1).trans ((if_pos c_7))
      exact W.aret (v := va_rf (lrF n la (cn x))) hx hb hr (Or.inl ⟨_, rfl⟩) (va_rf_or _) (fun t ht hW => ⟨by rw [ev], ht⟩) t_nil dX2_findLoan_20
    · refine lv_null hx hb dX2_findLoan_10 ?_
      refine lv_goto (tgt := 20) hx hb dX2_findLoan_11 (by decide) ?_
      have ev : bFind n la x = none := by unfold bFind; exact (if_neg c_1).trans ((if_neg c_7))
      exact W.aret (v := .null) hx hb hr (Or.inl ⟨_, rfl⟩) (Or.inl rfl) (fun t ht hW => ⟨by rw [ev]; rfl, ht⟩) t_nil dX2_findLoan_20
set_option maxHeartbeats 4000000 in
set_option maxRecDepth 100000 in
theorem c_X2_loanMarginsOfBranch (l : Launch) (G : va_G) (y : Nat → ClassId) (a : Nat → Nat) (b : MS) (n : Nat) (la : Nat → Nat → Nat) (L : LNS) (pd : Nat → Nat) (hpd : ∀ k, k < n → L k 0 7 = nI (pd k) ∧ pd k ≤ 6) (q : Int32) : Met l yX2_loanMarginsOfBranch wsX2_loanMarginsOfBranch ({ frames := 3, cells := 0, slots := 0, locals := 64 }) (rP G y [.ref (a 13), .int q] (bkW y a b n la L)) (QcV (.int (bLM n L pd 0 q))) 0 0 (fun _ => False) := by
  refine Met.ofW (cc := cX2_loanMarginsOfBranch) (maxL := 7) (ret := (some .int)) (by decide) rfl ?_
  intro p e s m args below meth c s₁ B hml hv
  obtain ⟨rfl, hP, hK⟩ := hv
  have hx := B.exec
  have hb := B.bytes
  have hr := B.returns
  have hts := atoms_spec (ws := wsX2_loanMarginsOfBranch) B.pre
  have hown : s.vm.findClass RX2 = some m.cls := findClass_of_methodNamed B.named
  have hlocks := B.notSynchronized
  have hl := lv_entry ([.ref (a 13), .int q]) (n := 7) (Nat.le_of_ble_eq_true rfl)
  rw [lg_entry_eq]
  generalize (lg_sl ([.ref (a 13), .int q]) ++ List.replicate (7 - (lg_sl ([.ref (a 13), .int q])).length) Slot.unset).toArray = ls at hl ⊢
  have hin0 : ∀ w ∈ wsX00, w ∈ wsX2_loanMarginsOfBranch := by decide +kernel
  have hin2 : ∀ w ∈ wsX20, w ∈ wsX2_loanMarginsOfBranch := by decide +kernel
  have hl : lv_has ls 7 [(0, .ref (a 13)), (1, .int q)] := hl
  refine lv_iconst (v := 0) hx hb dX2_loanMarginsOfBranch_0 (by decide) ?_
  refine lv_istore_n (lv' := [(2, .int 0), (0, .ref (a 13)), (1, .int q)]) hx hb dX2_loanMarginsOfBranch_1 rfl hl (by decide) rfl (fun ls hl => ?_)
  refine lv_aload_n hx hb dX2_loanMarginsOfBranch_2 rfl (lv_at hl 1 rfl) ?_
  refine bkG (b := b) (val := .ref (a 5)) hx hb hts hin2 hown hK hP 5 (by decide) (hts (.fieldLink RX2 28 "FundBook" "loanRows" "[LFundBook$Loan;") (by decide +kernel)) rfl dX2_loanMarginsOfBranch_3 ?_
  refine lv_astore_n (lv' := [(3, .ref (a 5)), (2, .int 0), (0, .ref (a 13)), (1, .int q)]) hx hb dX2_loanMarginsOfBranch_6 rfl hl (by decide) rfl (fun ls hl => ?_)
  refine lv_aload_n hx hb dX2_loanMarginsOfBranch_7 rfl (lv_at hl 0 rfl) ?_
  refine va_alen (v := 24) hx hb hK.1 hP 2 2 bg_5 rfl rfl dX2_loanMarginsOfBranch_8 ?_
  refine lv_istore (lv' := [(4, .int 24), (3, .ref (a 5)), (2, .int 0), (0, .ref (a 13)), (1, .int q)]) hx hb dX2_loanMarginsOfBranch_9 hl (by decide) rfl (fun ls hl => ?_)
  refine lv_iconst (v := 0) hx hb dX2_loanMarginsOfBranch_11 (by decide) ?_
  refine lv_istore (lv' := [(5, .int 0), (4, .int 24), (3, .ref (a 5)), (2, .int 0), (0, .ref (a 13)), (1, .int q)]) hx hb dX2_loanMarginsOfBranch_12 hl (by decide) rfl (fun ls hl => ?_)
  refine loopW (LV := fun k => [(0, .ref (a 13)), (1, .int q), (3, .ref (a 5)), (4, .int 24), (2, .int (S32 (bSm n (bLm L pd 0 q)) k)), (5, .int (nI k))]) 24 (lv_sub hl [4, 5, 2, 1, 3, 0] rfl) (fun k ls hk_k hl ih_k => ?_) (fun ls hl => ?_)
  · have hl : lv_has ls 7 [(0, .ref (a 13)), (1, .int q), (3, .ref (a 5)), (4, .int 24), (2, .int (S32 (bSm n (bLm L pd 0 q)) k)), (5, .int (nI k))] := hl
    refine lv_iload hx hb dX2_loanMarginsOfBranch_14 (lv_at hl 5 rfl) ?_
    refine lv_iload hx hb dX2_loanMarginsOfBranch_16 (lv_at hl 3 rfl) ?_
    refine lv_icmp_ge (tgt := 55) hx hb dX2_loanMarginsOfBranch_18 (by decide) (fun c_18 => absurd c_18 (nI_ge hk_k (by decide))) (fun c_18 => ?_)
    refine lv_aload_n hx hb dX2_loanMarginsOfBranch_21 rfl (lv_at hl 2 rfl) ?_
    refine lv_iload hx hb dX2_loanMarginsOfBranch_22 (lv_at hl 5 rfl) ?_
    refine ldQ (f := lrF n la) hx hb hK hP 2 bg_5 k rfl (by omega) (by decide) dX2_loanMarginsOfBranch_24 ?_
    rcases Nat.lt_or_ge k n with hkn | hkn
    · refine lv_optS (if_pos hkn) ?_
      refine lv_astore (lv' := [(6, .ref (la k 0)), (0, .ref (a 13)), (1, .int q), (3, .ref (a 5)), (4, .int 24), (2, .int (S32 (bSm n (bLm L pd 0 q)) k)), (5, .int (nI k))]) hx hb dX2_loanMarginsOfBranch_25 hl (by decide) rfl (fun ls hl => ?_)
      refine lv_aload hx hb dX2_loanMarginsOfBranch_27 (lv_at hl 0 rfl) ?_
      refine lv_ifnull hx hb dX2_loanMarginsOfBranch_29 ?_
      refine lv_aload hx hb dX2_loanMarginsOfBranch_32 (lv_at hl 0 rfl) ?_
      refine lnGN (i := k) (val := .int (L k 0 0)) hx hb hts hin0 hown hK (bk_ln hP hkn) 0 (by decide) (by decide +kernel) rfl dX2_loanMarginsOfBranch_34 ?_
      refine lv_iload_n hx hb dX2_loanMarginsOfBranch_37 rfl (lv_at hl 2 rfl) ?_
      refine lv_icmp_ne (tgt := 49) hx hb dX2_loanMarginsOfBranch_38 (by decide) (fun c_38 => ?_) (fun c_38 => ?_)
      · refine lv_iinc (v := (nI (k + 1))) (lv' := [(5, .int (nI (k + 1))), (6, .ref (la k 0)), (0, .ref (a 13)), (1, .int q), (3, .ref (a 5)), (4, .int 24), (2, .int (S32 (bSm n (bLm L pd 0 q)) k))]) hx hb dX2_loanMarginsOfBranch_49 hl (k := 6) rfl iinc1 (by decide) rfl (fun ls hl => ?_)
        refine lv_goto (tgt := 14) hx hb dX2_loanMarginsOfBranch_52 (by decide) ?_
        have e0 : bLm L pd 0 q k = 0 := if_neg c_38
        exact ih_k ls (by show lv_has ls 7 _; rw [bSm_0 e0]; exact lv_sub hl [2, 3, 4, 5, 6, 0] rfl)
      · refine lv_iload_n hx hb dX2_loanMarginsOfBranch_41 rfl (lv_at hl 5 rfl) ?_
        refine lv_aload hx hb dX2_loanMarginsOfBranch_42 (lv_at hl 0 rfl) ?_
        refine caR (r := .int (lOwn (L k) (pd k))) (va_runVN (As := []) (rest := [.int (S32 (bSm n (bLm L pd 0 q)) k)]) ⟨hx, hb, hml, hown, hts⟩ (c_X0_ownMargin l G y la L k (pd k) (hpd k hkn).1 (hpd k hkn).2) ⟨va_cnB (host := "FundBook") 0 hts gX2_loanMarginsOfBranch_X0_ownMargin_n158 rfl rfl rfl (hK.nw (by decide +kernel)) (hts (.initialized RX0) (by decide +kernel)) (by decide +kernel) ⟨Nat.le_of_ble_eq_true rfl, Nat.le_of_ble_eq_true rfl⟩, hts (.instanceMethod yX0_ownMargin) (by decide +kernel), hts (.selects RX0 yX0_ownMargin yX0_ownMargin) (by decide +kernel)⟩ ⟨rP_bl, va_recv hK.1 (bk_ln hP hkn) (ci := 0) (q0 := 0) rfl rfl, fun U hU hW => ⟨rfl, by rw [hU]; exact (bk_ln hP hkn), Kb.moved hW hK⟩⟩ rfl rfl hl.1 rfl (lv_room (Nat.le_of_ble_eq_true rfl)) dX2_loanMarginsOfBranch_44 ⟨Nat.le_of_ble_eq_true rfl, Nat.le_of_ble_eq_true rfl⟩) ?_
        have e0 : bLm L pd 0 q k = lOwn (L k) (pd k) := if_pos c_38
        refine lv_iadd hx hb dX2_loanMarginsOfBranch_47 ?_
        refine lv_topE (z := S32 (bSm n (bLm L pd 0 q)) (k + 1)) (by rw [← bSm_s hkn, e0]) ?_
        refine lv_istore_n (lv' := [(2, .int (S32 (bSm n (bLm L pd 0 q)) (k + 1))), (6, .ref (la k 0)), (0, .ref (a 13)), (1, .int q), (3, .ref (a 5)), (4, .int 24), (5, .int (nI k))]) hx hb dX2_loanMarginsOfBranch_48 rfl hl (by decide) rfl (fun ls hl => ?_)
        refine lv_iinc (v := (nI (k + 1))) (lv' := [(5, .int (nI (k + 1))), (2, .int (S32 (bSm n (bLm L pd 0 q)) (k + 1))), (6, .ref (la k 0)), (0, .ref (a 13)), (1, .int q), (3, .ref (a 5)), (4, .int 24)]) hx hb dX2_loanMarginsOfBranch_49 hl (k := 6) rfl iinc1 (by decide) rfl (fun ls hl => ?_)
        refine lv_goto (tgt := 14) hx hb dX2_loanMarginsOfBranch_52 (by decide) ?_
        exact ih_k ls (lv_sub hl [3, 4, 5, 6, 1, 0] rfl)
    · refine lv_optN (if_neg (Nat.not_lt.mpr hkn)) ?_
      refine lv_astoreN (lv' := [(6, .null), (0, .ref (a 13)), (1, .int q), (3, .ref (a 5)), (4, .int 24), (2, .int (S32 (bSm n (bLm L pd 0 q)) k)), (5, .int (nI k))]) hx hb dX2_loanMarginsOfBranch_25 hl (by decide) rfl (fun ls hl => ?_)
      refine lv_aloadN hx hb dX2_loanMarginsOfBranch_27 (lv_at hl 0 rfl) ?_
      refine lv_ifnullN (tgt := 49) hx hb dX2_loanMarginsOfBranch_29 (by decide) ?_
      refine lv_iinc (v := (nI (k + 1))) (lv' := [(5, .int (nI (k + 1))), (6, .null), (0, .ref (a 13)), (1, .int q), (3, .ref (a 5)), (4, .int 24), (2, .int (S32 (bSm n (bLm L pd 0 q)) k))]) hx hb dX2_loanMarginsOfBranch_49 hl (k := 6) rfl iinc1 (by decide) rfl (fun ls hl => ?_)
      refine lv_goto (tgt := 14) hx hb dX2_loanMarginsOfBranch_52 (by decide) ?_
      exact ih_k ls (by show lv_has ls 7 _; rw [bSm_k hkn]; exact lv_sub hl [2, 3, 4, 5, 6, 0] rfl)
  · have hl : lv_has ls 7 [(0, .ref (a 13)), (1, .int q), (3, .ref (a 5)), (4, .int 24), (2, .int (S32 (bSm n (bLm L pd 0 q)) 24)), (5, .int (nI 24))] := hl
    refine lv_iload hx hb dX2_loanMarginsOfBranch_14 (lv_at hl 5 rfl) ?_
    refine lv_iload hx hb dX2_loanMarginsOfBranch_16 (lv_at hl 3 rfl) ?_
    refine lv_icmp_ge (tgt := 55) hx hb dX2_loanMarginsOfBranch_18 (by decide) (fun c_18 => ?_) (fun c_18 => absurd (nI_le (Nat.le_refl 24) (by decide)) c_18)
    refine lv_iload_n hx hb dX2_loanMarginsOfBranch_55 rfl (lv_at hl 4 rfl) ?_
    exact W.iret (v := S32 (bSm n (bLm L pd 0 q)) 24) hx hb hr (fun t ht hW => ⟨congrArg (fun z => Outcome.returned (some (.int z))) (rfl), ht⟩) t_nil dX2_loanMarginsOfBranch_56
set_option maxHeartbeats 4000000 in
set_option maxRecDepth 100000 in
theorem c_X2_loanMarginsOfProduct (l : Launch) (G : va_G) (y : Nat → ClassId) (a : Nat → Nat) (b : MS) (n : Nat) (la : Nat → Nat → Nat) (L : LNS) (pd : Nat → Nat) (hpd : ∀ k, k < n → L k 0 7 = nI (pd k) ∧ pd k ≤ 6) (q : Int32) : Met l yX2_loanMarginsOfProduct wsX2_loanMarginsOfProduct ({ frames := 3, cells := 0, slots := 0, locals := 64 }) (rP G y [.ref (a 13), .int q] (bkW y a b n la L)) (QcV (.int (bLM n L pd 1 q))) 0 0 (fun _ => False) := by
  refine Met.ofW (cc := cX2_loanMarginsOfProduct) (maxL := 7) (ret := (some .int)) (by decide) rfl ?_
  intro p e s m args below meth c s₁ B hml hv
  obtain ⟨rfl, hP, hK⟩ := hv
  have hx := B.exec
  have hb := B.bytes
  have hr := B.returns
  have hts := atoms_spec (ws := wsX2_loanMarginsOfProduct) B.pre
  have hown : s.vm.findClass RX2 = some m.cls := findClass_of_methodNamed B.named
  have hlocks := B.notSynchronized
  have hl := lv_entry ([.ref (a 13), .int q]) (n := 7) (Nat.le_of_ble_eq_true rfl)
  rw [lg_entry_eq]
  generalize (lg_sl ([.ref (a 13), .int q]) ++ List.replicate (7 - (lg_sl ([.ref (a 13), .int q])).length) Slot.unset).toArray = ls at hl ⊢
  have hin0 : ∀ w ∈ wsX00, w ∈ wsX2_loanMarginsOfProduct := by decide +kernel
  have hin2 : ∀ w ∈ wsX20, w ∈ wsX2_loanMarginsOfProduct := by decide +kernel
  have hl : lv_has ls 7 [(0, .ref (a 13)), (1, .int q)] := hl
  refine lv_iconst (v := 0) hx hb dX2_loanMarginsOfProduct_0 (by decide) ?_
  refine lv_istore_n (lv' := [(2, .int 0), (0, .ref (a 13)), (1, .int q)]) hx hb dX2_loanMarginsOfProduct_1 rfl hl (by decide) rfl (fun ls hl => ?_)
  refine lv_aload_n hx hb dX2_loanMarginsOfProduct_2 rfl (lv_at hl 1 rfl) ?_
  refine bkG (b := b) (val := .ref (a 5)) hx hb hts hin2 hown hK hP 5 (by decide) (hts (.fieldLink RX2 28 "FundBook" "loanRows" "[LFundBook$Loan;") (by decide +kernel)) rfl dX2_loanMarginsOfProduct_3 ?_
  refine lv_astore_n (lv' := [(3, .ref (a 5)), (2, .int 0), (0, .ref (a 13)), (1, .int q)]) hx hb dX2_loanMarginsOfProduct_6 rfl hl (by decide) rfl (fun ls hl => ?_)
  refine lv_aload_n hx hb dX2_loanMarginsOfProduct_7 rfl (lv_at hl 0 rfl) ?_
  refine va_alen (v := 24) hx hb hK.1 hP 2 2 bg_5 rfl rfl dX2_loanMarginsOfProduct_8 ?_
  refine lv_istore (lv' := [(4, .int 24), (3, .ref (a 5)), (2, .int 0), (0, .ref (a 13)), (1, .int q)]) hx hb dX2_loanMarginsOfProduct_9 hl (by decide) rfl (fun ls hl => ?_)
  refine lv_iconst (v := 0) hx hb dX2_loanMarginsOfProduct_11 (by decide) ?_
  refine lv_istore (lv' := [(5, .int 0), (4, .int 24), (3, .ref (a 5)), (2, .int 0), (0, .ref (a 13)), (1, .int q)]) hx hb dX2_loanMarginsOfProduct_12 hl (by decide) rfl (fun ls hl => ?_)
  refine loopW (LV := fun k => [(0, .ref (a 13)), (1, .int q), (3, .ref (a 5)), (4, .int 24), (2, .int (S32 (bSm n (bLm L pd 1 q)) k)), (5, .int (nI k))]) 24 (lv_sub hl [4, 5, 2, 1, 3, 0] rfl) (fun k ls hk_k hl ih_k => ?_) (fun ls hl => ?_)
  · have hl : lv_has ls 7 [(0, .ref (a 13)), (1, .int q), (3, .ref (a 5)), (4, .int 24), (2, .int (S32 (bSm n (bLm L pd 1 q)) k)), (5, .int (nI k))] := hl
    refine lv_iload hx hb dX2_loanMarginsOfProduct_14 (lv_at hl 5 rfl) ?_
    refine lv_iload hx hb dX2_loanMarginsOfProduct_16 (lv_at hl 3 rfl) ?_
    refine lv_icmp_ge (tgt := 55) hx hb dX2_loanMarginsOfProduct_18 (by decide) (fun c_18 => absurd c_18 (nI_ge hk_k (by decide))) (fun c_18 => ?_)
    refine lv_aload_n hx hb dX2_loanMarginsOfProduct_21 rfl (lv_at hl 2 rfl) ?_
    refine lv_iload hx hb dX2_loanMarginsOfProduct_22 (lv_at hl 5 rfl) ?_
    refine ldQ (f := lrF n la) hx hb hK hP 2 bg_5 k rfl (by omega) (by decide) dX2_loanMarginsOfProduct_24 ?_
    rcases Nat.lt_or_ge k n with hkn | hkn
    · refine lv_optS (if_pos hkn) ?_
      refine lv_astore (lv' := [(6, .ref (la k 0)), (0, .ref (a 13)), (1, .int q), (3, .ref (a 5)), (4, .int 24), (2, .int (S32 (bSm n (bLm L pd 1 q)) k)), (5, .int (nI k))]) hx hb dX2_loanMarginsOfProduct_25 hl (by decide) rfl (fun ls hl => ?_)
      refine lv_aload hx hb dX2_loanMarginsOfProduct_27 (lv_at hl 0 rfl) ?_
      refine lv_ifnull hx hb dX2_loanMarginsOfProduct_29 ?_
      refine lv_aload hx hb dX2_loanMarginsOfProduct_32 (lv_at hl 0 rfl) ?_
      refine lnGN (i := k) (val := .int (L k 0 1)) hx hb hts hin0 hown hK (bk_ln hP hkn) 1 (by decide) (by decide +kernel) rfl dX2_loanMarginsOfProduct_34 ?_
      refine lv_iload_n hx hb dX2_loanMarginsOfProduct_37 rfl (lv_at hl 2 rfl) ?_
      refine lv_icmp_ne (tgt := 49) hx hb dX2_loanMarginsOfProduct_38 (by decide) (fun c_38 => ?_) (fun c_38 => ?_)
      · refine lv_iinc (v := (nI (k + 1))) (lv' := [(5, .int (nI (k + 1))), (6, .ref (la k 0)), (0, .ref (a 13)), (1, .int q), (3, .ref (a 5)), (4, .int 24), (2, .int (S32 (bSm n (bLm L pd 1 q)) k))]) hx hb dX2_loanMarginsOfProduct_49 hl (k := 6) rfl iinc1 (by decide) rfl (fun ls hl => ?_)
        refine lv_goto (tgt := 14) hx hb dX2_loanMarginsOfProduct_52 (by decide) ?_
        have e0 : bLm L pd 1 q k = 0 := if_neg c_38
        exact ih_k ls (by show lv_has ls 7 _; rw [bSm_0 e0]; exact lv_sub hl [2, 3, 4, 5, 6, 0] rfl)
      · refine lv_iload_n hx hb dX2_loanMarginsOfProduct_41 rfl (lv_at hl 5 rfl) ?_
        refine lv_aload hx hb dX2_loanMarginsOfProduct_42 (lv_at hl 0 rfl) ?_
        refine caR (r := .int (lOwn (L k) (pd k))) (va_runVN (As := []) (rest := [.int (S32 (bSm n (bLm L pd 1 q)) k)]) ⟨hx, hb, hml, hown, hts⟩ (c_X0_ownMargin l G y la L k (pd k) (hpd k hkn).1 (hpd k hkn).2) ⟨va_cnB (host := "FundBook") 0 hts gX2_loanMarginsOfProduct_X0_ownMargin_n158 rfl rfl rfl (hK.nw (by decide +kernel)) (hts (.initialized RX0) (by decide +kernel)) (by decide +kernel) ⟨Nat.le_of_ble_eq_true rfl, Nat.le_of_ble_eq_true rfl⟩, hts (.instanceMethod yX0_ownMargin) (by decide +kernel), hts (.selects RX0 yX0_ownMargin yX0_ownMargin) (by decide +kernel)⟩ ⟨rP_bl, va_recv hK.1 (bk_ln hP hkn) (ci := 0) (q0 := 0) rfl rfl, fun U hU hW => ⟨rfl, by rw [hU]; exact (bk_ln hP hkn), Kb.moved hW hK⟩⟩ rfl rfl hl.1 rfl (lv_room (Nat.le_of_ble_eq_true rfl)) dX2_loanMarginsOfProduct_44 ⟨Nat.le_of_ble_eq_true rfl, Nat.le_of_ble_eq_true rfl⟩) ?_
        have e0 : bLm L pd 1 q k = lOwn (L k) (pd k) := if_pos c_38
        refine lv_iadd hx hb dX2_loanMarginsOfProduct_47 ?_
        refine lv_topE (z := S32 (bSm n (bLm L pd 1 q)) (k + 1)) (by rw [← bSm_s hkn, e0]) ?_
        refine lv_istore_n (lv' := [(2, .int (S32 (bSm n (bLm L pd 1 q)) (k + 1))), (6, .ref (la k 0)), (0, .ref (a 13)), (1, .int q), (3, .ref (a 5)), (4, .int 24), (5, .int (nI k))]) hx hb dX2_loanMarginsOfProduct_48 rfl hl (by decide) rfl (fun ls hl => ?_)
        refine lv_iinc (v := (nI (k + 1))) (lv' := [(5, .int (nI (k + 1))), (2, .int (S32 (bSm n (bLm L pd 1 q)) (k + 1))), (6, .ref (la k 0)), (0, .ref (a 13)), (1, .int q), (3, .ref (a 5)), (4, .int 24)]) hx hb dX2_loanMarginsOfProduct_49 hl (k := 6) rfl iinc1 (by decide) rfl (fun ls hl => ?_)
        refine lv_goto (tgt := 14) hx hb dX2_loanMarginsOfProduct_52 (by decide) ?_
        exact ih_k ls (lv_sub hl [3, 4, 5, 6, 1, 0] rfl)
    · refine lv_optN (if_neg (Nat.not_lt.mpr hkn)) ?_
      refine lv_astoreN (lv' := [(6, .null), (0, .ref (a 13)), (1, .int q), (3, .ref (a 5)), (4, .int 24), (2, .int (S32 (bSm n (bLm L pd 1 q)) k)), (5, .int (nI k))]) hx hb dX2_loanMarginsOfProduct_25 hl (by decide) rfl (fun ls hl => ?_)
      refine lv_aloadN hx hb dX2_loanMarginsOfProduct_27 (lv_at hl 0 rfl) ?_
      refine lv_ifnullN (tgt := 49) hx hb dX2_loanMarginsOfProduct_29 (by decide) ?_
      refine lv_iinc (v := (nI (k + 1))) (lv' := [(5, .int (nI (k + 1))), (6, .null), (0, .ref (a 13)), (1, .int q), (3, .ref (a 5)), (4, .int 24), (2, .int (S32 (bSm n (bLm L pd 1 q)) k))]) hx hb dX2_loanMarginsOfProduct_49 hl (k := 6) rfl iinc1 (by decide) rfl (fun ls hl => ?_)
      refine lv_goto (tgt := 14) hx hb dX2_loanMarginsOfProduct_52 (by decide) ?_
      exact ih_k ls (by show lv_has ls 7 _; rw [bSm_k hkn]; exact lv_sub hl [2, 3, 4, 5, 6, 0] rfl)
  · have hl : lv_has ls 7 [(0, .ref (a 13)), (1, .int q), (3, .ref (a 5)), (4, .int 24), (2, .int (S32 (bSm n (bLm L pd 1 q)) 24)), (5, .int (nI 24))] := hl
    refine lv_iload hx hb dX2_loanMarginsOfProduct_14 (lv_at hl 5 rfl) ?_
    refine lv_iload hx hb dX2_loanMarginsOfProduct_16 (lv_at hl 3 rfl) ?_
    refine lv_icmp_ge (tgt := 55) hx hb dX2_loanMarginsOfProduct_18 (by decide) (fun c_18 => ?_) (fun c_18 => absurd (nI_le (Nat.le_refl 24) (by decide)) c_18)
    refine lv_iload_n hx hb dX2_loanMarginsOfProduct_55 rfl (lv_at hl 4 rfl) ?_
    exact W.iret (v := S32 (bSm n (bLm L pd 1 q)) 24) hx hb hr (fun t ht hW => ⟨congrArg (fun z => Outcome.returned (some (.int z))) (rfl), ht⟩) t_nil dX2_loanMarginsOfProduct_56
set_option maxHeartbeats 4000000 in
set_option maxRecDepth 100000 in
theorem c_X2_month (l : Launch) (G : va_G) (y : Nat → ClassId) (a : Nat → Nat) (b : MS) (n : Nat) (la : Nat → Nat → Nat) (L : LNS)  : Met l yX2_month wsX2_month ({ frames := 0, cells := 0, slots := 0, locals := 0 }) (rP G y [.ref (a 13)] (bkW y a b n la L)) (QcV (.int (b 13 4))) 0 0 (fun _ => False) := by
  refine Met.ofW (cc := cX2_month) (maxL := 1) (ret := (some .int)) (by decide) rfl ?_
  intro p e s m args below meth c s₁ B hml hv
  obtain ⟨rfl, hP, hK⟩ := hv
  have hx := B.exec
  have hb := B.bytes
  have hr := B.returns
  have hts := atoms_spec (ws := wsX2_month) B.pre
  have hown : s.vm.findClass RX2 = some m.cls := findClass_of_methodNamed B.named
  have hlocks := B.notSynchronized
  have hl := lv_entry ([.ref (a 13)]) (n := 1) (Nat.le_of_ble_eq_true rfl)
  rw [lg_entry_eq]
  generalize (lg_sl ([.ref (a 13)]) ++ List.replicate (1 - (lg_sl ([.ref (a 13)])).length) Slot.unset).toArray = ls at hl ⊢
  have hin2 : ∀ w ∈ wsX20, w ∈ wsX2_month := by decide +kernel
  have hl : lv_has ls 1 [(0, .ref (a 13))] := hl
  refine lv_aload_n hx hb dX2_month_0 rfl (lv_at hl 0 rfl) ?_
  refine bkG (b := b) (val := .int (b 13 4)) hx hb hts hin2 hown hK hP 4 (by decide) (hts (.fieldLink RX2 23 "FundBook" "now" "I") (by decide +kernel)) rfl dX2_month_1 ?_
  exact W.iret (v := b 13 4) hx hb hr (fun t ht hW => ⟨congrArg (fun z => Outcome.returned (some (.int z))) (rfl), ht⟩) t_nil dX2_month_4
set_option maxHeartbeats 4000000 in
set_option maxRecDepth 100000 in
theorem c_X2_loans (l : Launch) (G : va_G) (y : Nat → ClassId) (a : Nat → Nat) (b : MS) (n : Nat) (la : Nat → Nat → Nat) (L : LNS)  : Met l yX2_loans wsX2_loans ({ frames := 0, cells := 0, slots := 0, locals := 0 }) (rP G y [.ref (a 13)] (bkW y a b n la L)) (QcV (.int (b 13 6))) 0 0 (fun _ => False) := by
  refine Met.ofW (cc := cX2_loans) (maxL := 1) (ret := (some .int)) (by decide) rfl ?_
  intro p e s m args below meth c s₁ B hml hv
  obtain ⟨rfl, hP, hK⟩ := hv
  have hx := B.exec
  have hb := B.bytes
  have hr := B.returns
  have hts := atoms_spec (ws := wsX2_loans) B.pre
  have hown : s.vm.findClass RX2 = some m.cls := findClass_of_methodNamed B.named
  have hlocks := B.notSynchronized
  have hl := lv_entry ([.ref (a 13)]) (n := 1) (Nat.le_of_ble_eq_true rfl)
  rw [lg_entry_eq]
  generalize (lg_sl ([.ref (a 13)]) ++ List.replicate (1 - (lg_sl ([.ref (a 13)])).length) Slot.unset).toArray = ls at hl ⊢
  have hin2 : ∀ w ∈ wsX20, w ∈ wsX2_loans := by decide +kernel
  have hl : lv_has ls 1 [(0, .ref (a 13))] := hl
  refine lv_aload_n hx hb dX2_loans_0 rfl (lv_at hl 0 rfl) ?_
  refine bkG (b := b) (val := .int (b 13 6)) hx hb hts hin2 hown hK hP 6 (by decide) (hts (.fieldLink RX2 32 "FundBook" "loanCount" "I") (by decide +kernel)) rfl dX2_loans_1 ?_
  exact W.iret (v := b 13 6) hx hb hr (fun t ht hW => ⟨congrArg (fun z => Outcome.returned (some (.int z))) (rfl), ht⟩) t_nil dX2_loans_4
set_option maxHeartbeats 4000000 in
set_option maxRecDepth 100000 in
theorem c_X2_replicaRate (l : Launch) (G : va_G) (y : Nat → ClassId) (a : Nat → Nat) (b : MS) (n : Nat) (la : Nat → Nat → Nat) (L : LNS)  : Met l yX2_replicaRate wsX2_replicaRate ({ frames := 1, cells := 0, slots := 0, locals := 25 }) (rP G y [.ref (a 13)] (bkW y a b n la L)) (QcV (.int (bAvg b))) 0 0 (fun _ => False) := by
  refine Met.ofW (cc := cX2_replicaRate) (maxL := 1) (ret := (some .int)) (by decide) rfl ?_
  intro p e s m args below meth c s₁ B hml hv
  obtain ⟨rfl, hP, hK⟩ := hv
  have hx := B.exec
  have hb := B.bytes
  have hr := B.returns
  have hts := atoms_spec (ws := wsX2_replicaRate) B.pre
  have hown : s.vm.findClass RX2 = some m.cls := findClass_of_methodNamed B.named
  have hlocks := B.notSynchronized
  have hl := lv_entry ([.ref (a 13)]) (n := 1) (Nat.le_of_ble_eq_true rfl)
  rw [lg_entry_eq]
  generalize (lg_sl ([.ref (a 13)]) ++ List.replicate (1 - (lg_sl ([.ref (a 13)])).length) Slot.unset).toArray = ls at hl ⊢
  have hin2 : ∀ w ∈ wsX20, w ∈ wsX2_replicaRate := by decide +kernel
  have hl : lv_has ls 1 [(0, .ref (a 13))] := hl
  refine lv_aload_n hx hb dX2_replicaRate_0 rfl (lv_at hl 0 rfl) ?_
  refine bkG (b := b) (val := .ref (a 8)) hx hb hts hin2 hown hK hP 8 (by decide) (hts (.fieldLink RX2 41 "FundBook" "replica" "LFundBook$Replica;") (by decide +kernel)) rfl dX2_replicaRate_1 ?_
  refine caR (r := .int (bAvg b)) (va_runVN (As := []) (rest := []) ⟨hx, hb, hml, hown, hts⟩ (c_X1_averageRate l G y a b) ⟨va_cnB (host := "FundBook") 0 hts gX2_replicaRate_X1_averageRate_n174 rfl rfl rfl (hK.nw (by decide +kernel)) (hts (.initialized RX1) (by decide +kernel)) (by decide +kernel) ⟨Nat.le_of_ble_eq_true rfl, Nat.le_of_ble_eq_true rfl⟩, hts (.instanceMethod yX1_averageRate) (by decide +kernel), hts (.selects RX1 yX1_averageRate yX1_averageRate) (by decide +kernel)⟩ ⟨rP_bl, va_recv hK.1 (bk_rp hP) (ci := 1) (q0 := 0) rfl rfl, fun U hU hW => ⟨rfl, by rw [hU]; exact (bk_rp hP), Kb.moved hW hK⟩⟩ rfl rfl hl.1 rfl (lv_room (Nat.le_of_ble_eq_true rfl)) dX2_replicaRate_4 ⟨Nat.le_of_ble_eq_true rfl, Nat.le_of_ble_eq_true rfl⟩) ?_
  exact W.iret (v := bAvg b) hx hb hr (fun t ht hW => ⟨congrArg (fun z => Outcome.returned (some (.int z))) (rfl), ht⟩) t_nil dX2_replicaRate_7
end
