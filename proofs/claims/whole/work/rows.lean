section
-- ===== PART A: goes FIRST, ahead of the names: the tables' words, and 'selects' of the private methods out of them =====
/-- a private method of a class that the tables say can be made, by its rows of tables_1 -/
def lw_okq (q : MethodName × Nat) : Prop := (q.1.cls ≠ "java/lang/invoke/MethodHandle" ∧ q.1.cls ≠ "java/lang/invoke/VarHandle") ∧ Cond.instantiable q.1.cls q.2 ∈ tables_1 ∧ Cond.privateMethod q.1 ∈ tables_1 ∧ Cond.instanceMethod q.1 ∈ tables_1
theorem lw_p0 : lw_okq (⟨"FundBook$Replica", "averageRate", "()I"⟩, 2) := ⟨⟨by decide +kernel, by decide +kernel⟩, List.mem_of_getElem? (i := 22) (by decide +kernel), List.mem_of_getElem? (i := 91) (by decide +kernel), List.mem_of_getElem? (i := 92) (by decide +kernel)⟩
theorem lw_p1 : lw_okq (⟨"java/lang/Throwable", "fillInStackTrace", "(I)Ljava/lang/Throwable;"⟩, 6) := ⟨⟨by decide +kernel, by decide +kernel⟩, List.mem_of_getElem? (i := 142) (by decide +kernel), List.mem_of_getElem? (i := 140) (by decide +kernel), List.mem_of_getElem? (i := 141) (by decide +kernel)⟩
theorem lw_p2 : lw_okq (⟨"FundBook", "findLoan", "(I)LFundBook$Loan;"⟩, 13) := ⟨⟨by decide +kernel, by decide +kernel⟩, List.mem_of_getElem? (i := 12) (by decide +kernel), List.mem_of_getElem? (i := 276) (by decide +kernel), List.mem_of_getElem? (i := 277) (by decide +kernel)⟩
theorem lw_p3 : lw_okq (⟨"FundBook$Loan", "unpaid", "()I"⟩, 8) := ⟨⟨by decide +kernel, by decide +kernel⟩, List.mem_of_getElem? (i := 228) (by decide +kernel), List.mem_of_getElem? (i := 281) (by decide +kernel), List.mem_of_getElem? (i := 282) (by decide +kernel)⟩
theorem lw_p4 : lw_okq (⟨"FundBook$Loan", "settle", "()V"⟩, 8) := ⟨⟨by decide +kernel, by decide +kernel⟩, List.mem_of_getElem? (i := 228) (by decide +kernel), List.mem_of_getElem? (i := 286) (by decide +kernel), List.mem_of_getElem? (i := 287) (by decide +kernel)⟩
theorem lw_p5 : lw_okq (⟨"FundBook", "trancheAmount", "()I"⟩, 13) := ⟨⟨by decide +kernel, by decide +kernel⟩, List.mem_of_getElem? (i := 12) (by decide +kernel), List.mem_of_getElem? (i := 301) (by decide +kernel), List.mem_of_getElem? (i := 302) (by decide +kernel)⟩
theorem lw_p6 : lw_okq (⟨"FundBook", "coreOf", "(J)I"⟩, 13) := ⟨⟨by decide +kernel, by decide +kernel⟩, List.mem_of_getElem? (i := 12) (by decide +kernel), List.mem_of_getElem? (i := 305) (by decide +kernel), List.mem_of_getElem? (i := 306) (by decide +kernel)⟩
theorem lw_p7 : lw_okq (⟨"FundBook$Replica", "layAll", "(II)V"⟩, 2) := ⟨⟨by decide +kernel, by decide +kernel⟩, List.mem_of_getElem? (i := 22) (by decide +kernel), List.mem_of_getElem? (i := 310) (by decide +kernel), List.mem_of_getElem? (i := 311) (by decide +kernel)⟩
theorem lw_p8 : lw_okq (⟨"FundBook$Replica", "lay", "(III)V"⟩, 2) := ⟨⟨by decide +kernel, by decide +kernel⟩, List.mem_of_getElem? (i := 22) (by decide +kernel), List.mem_of_getElem? (i := 314) (by decide +kernel), List.mem_of_getElem? (i := 315) (by decide +kernel)⟩
theorem lw_p9 : lw_okq (⟨"FundBook", "reckonLoans", "()V"⟩, 13) := ⟨⟨by decide +kernel, by decide +kernel⟩, List.mem_of_getElem? (i := 12) (by decide +kernel), List.mem_of_getElem? (i := 326) (by decide +kernel), List.mem_of_getElem? (i := 327) (by decide +kernel)⟩
theorem lw_p10 : lw_okq (⟨"FundBook", "loanMarginsOfBranch", "(I)I"⟩, 13) := ⟨⟨by decide +kernel, by decide +kernel⟩, List.mem_of_getElem? (i := 12) (by decide +kernel), List.mem_of_getElem? (i := 330) (by decide +kernel), List.mem_of_getElem? (i := 331) (by decide +kernel)⟩
theorem lw_p11 : lw_okq (⟨"FundBook$Loan", "ownMargin", "()I"⟩, 8) := ⟨⟨by decide +kernel, by decide +kernel⟩, List.mem_of_getElem? (i := 228) (by decide +kernel), List.mem_of_getElem? (i := 334) (by decide +kernel), List.mem_of_getElem? (i := 335) (by decide +kernel)⟩
theorem lw_p12 : lw_okq (⟨"FundBook$Loan", "customerInterest", "()I"⟩, 8) := ⟨⟨by decide +kernel, by decide +kernel⟩, List.mem_of_getElem? (i := 228) (by decide +kernel), List.mem_of_getElem? (i := 338) (by decide +kernel), List.mem_of_getElem? (i := 339) (by decide +kernel)⟩
theorem lw_p13 : lw_okq (⟨"FundBook$Loan", "funding", "()I"⟩, 8) := ⟨⟨by decide +kernel, by decide +kernel⟩, List.mem_of_getElem? (i := 228) (by decide +kernel), List.mem_of_getElem? (i := 347) (by decide +kernel), List.mem_of_getElem? (i := 348) (by decide +kernel)⟩
theorem lw_p14 : lw_okq (⟨"FundBook$Loan", "optionCharge", "()I"⟩, 8) := ⟨⟨by decide +kernel, by decide +kernel⟩, List.mem_of_getElem? (i := 228) (by decide +kernel), List.mem_of_getElem? (i := 351) (by decide +kernel), List.mem_of_getElem? (i := 352) (by decide +kernel)⟩
theorem lw_p15 : lw_okq (⟨"FundBook", "loanMarginsOfProduct", "(I)I"⟩, 13) := ⟨⟨by decide +kernel, by decide +kernel⟩, List.mem_of_getElem? (i := 12) (by decide +kernel), List.mem_of_getElem? (i := 355) (by decide +kernel), List.mem_of_getElem? (i := 356) (by decide +kernel)⟩
def lw_privs_1 : List (MethodName × Nat) := [(⟨"FundBook$Replica", "averageRate", "()I"⟩, 2), (⟨"java/lang/Throwable", "fillInStackTrace", "(I)Ljava/lang/Throwable;"⟩, 6), (⟨"FundBook", "findLoan", "(I)LFundBook$Loan;"⟩, 13), (⟨"FundBook$Loan", "unpaid", "()I"⟩, 8), (⟨"FundBook$Loan", "settle", "()V"⟩, 8), (⟨"FundBook", "trancheAmount", "()I"⟩, 13), (⟨"FundBook", "coreOf", "(J)I"⟩, 13), (⟨"FundBook$Replica", "layAll", "(II)V"⟩, 2), (⟨"FundBook$Replica", "lay", "(III)V"⟩, 2), (⟨"FundBook", "reckonLoans", "()V"⟩, 13), (⟨"FundBook", "loanMarginsOfBranch", "(I)I"⟩, 13), (⟨"FundBook$Loan", "ownMargin", "()I"⟩, 8), (⟨"FundBook$Loan", "customerInterest", "()I"⟩, 8), (⟨"FundBook$Loan", "funding", "()I"⟩, 8), (⟨"FundBook$Loan", "optionCharge", "()I"⟩, 8), (⟨"FundBook", "loanMarginsOfProduct", "(I)I"⟩, 13)]
theorem lw_r1 : ∀ q ∈ lw_privs_1, lw_okq q := List.forall_mem_cons.mpr ⟨lw_p0, List.forall_mem_cons.mpr ⟨lw_p1, List.forall_mem_cons.mpr ⟨lw_p2, List.forall_mem_cons.mpr ⟨lw_p3, List.forall_mem_cons.mpr ⟨lw_p4, List.forall_mem_cons.mpr ⟨lw_p5, List.forall_mem_cons.mpr ⟨lw_p6, List.forall_mem_cons.mpr ⟨lw_p7, List.forall_mem_cons.mpr ⟨lw_p8, List.forall_mem_cons.mpr ⟨lw_p9, List.forall_mem_cons.mpr ⟨lw_p10, List.forall_mem_cons.mpr ⟨lw_p11, List.forall_mem_cons.mpr ⟨lw_p12, List.forall_mem_cons.mpr ⟨lw_p13, List.forall_mem_cons.mpr ⟨lw_p14, List.forall_mem_cons.mpr ⟨lw_p15, fun _ h => absurd h List.not_mem_nil⟩⟩⟩⟩⟩⟩⟩⟩⟩⟩⟩⟩⟩⟩⟩⟩
theorem lw_p16 : lw_okq (⟨"FundBook", "reckonDeposits", "()V"⟩, 13) := ⟨⟨by decide +kernel, by decide +kernel⟩, List.mem_of_getElem? (i := 12) (by decide +kernel), List.mem_of_getElem? (i := 362) (by decide +kernel), List.mem_of_getElem? (i := 363) (by decide +kernel)⟩
theorem lw_p17 : lw_okq (⟨"FundBook", "paidForDeposits", "(II)I"⟩, 13) := ⟨⟨by decide +kernel, by decide +kernel⟩, List.mem_of_getElem? (i := 12) (by decide +kernel), List.mem_of_getElem? (i := 366) (by decide +kernel), List.mem_of_getElem? (i := 367) (by decide +kernel)⟩
theorem lw_p18 : lw_okq (⟨"FundBook", "payParts", "()V"⟩, 13) := ⟨⟨by decide +kernel, by decide +kernel⟩, List.mem_of_getElem? (i := 12) (by decide +kernel), List.mem_of_getElem? (i := 371) (by decide +kernel), List.mem_of_getElem? (i := 372) (by decide +kernel)⟩
theorem lw_p19 : lw_okq (⟨"FundBook$Loan", "payPart", "()V"⟩, 8) := ⟨⟨by decide +kernel, by decide +kernel⟩, List.mem_of_getElem? (i := 228) (by decide +kernel), List.mem_of_getElem? (i := 375) (by decide +kernel), List.mem_of_getElem? (i := 376) (by decide +kernel)⟩
theorem lw_p20 : lw_okq (⟨"FundBook$Loan", "partAhead", "(I)I"⟩, 8) := ⟨⟨by decide +kernel, by decide +kernel⟩, List.mem_of_getElem? (i := 228) (by decide +kernel), List.mem_of_getElem? (i := 403) (by decide +kernel), List.mem_of_getElem? (i := 404) (by decide +kernel)⟩
theorem lw_p21 : lw_okq (⟨"FundBook", "hasEnded", "(I)Z"⟩, 13) := ⟨⟨by decide +kernel, by decide +kernel⟩, List.mem_of_getElem? (i := 12) (by decide +kernel), List.mem_of_getElem? (i := 429) (by decide +kernel), List.mem_of_getElem? (i := 430) (by decide +kernel)⟩
theorem lw_p22 : lw_okq (⟨"FundBookModel", "fails", "(I)I"⟩, 22) := ⟨⟨by decide +kernel, by decide +kernel⟩, List.mem_of_getElem? (i := 457) (by decide +kernel), List.mem_of_getElem? (i := 542) (by decide +kernel), List.mem_of_getElem? (i := 543) (by decide +kernel)⟩
theorem lw_p23 : lw_okq (⟨"FundBookModel", "isLoan", "(I)Z"⟩, 22) := ⟨⟨by decide +kernel, by decide +kernel⟩, List.mem_of_getElem? (i := 457) (by decide +kernel), List.mem_of_getElem? (i := 562) (by decide +kernel), List.mem_of_getElem? (i := 563) (by decide +kernel)⟩
theorem lw_p24 : lw_okq (⟨"FundBookModel", "leftOf", "(I)I"⟩, 22) := ⟨⟨by decide +kernel, by decide +kernel⟩, List.mem_of_getElem? (i := 457) (by decide +kernel), List.mem_of_getElem? (i := 566) (by decide +kernel), List.mem_of_getElem? (i := 567) (by decide +kernel)⟩
theorem lw_p25 : lw_okq (⟨"FundBookModel", "lays", "(I)V"⟩, 22) := ⟨⟨by decide +kernel, by decide +kernel⟩, List.mem_of_getElem? (i := 457) (by decide +kernel), List.mem_of_getElem? (i := 575) (by decide +kernel), List.mem_of_getElem? (i := 576) (by decide +kernel)⟩
theorem lw_p26 : lw_okq (⟨"FundBookModel", "core", "()I"⟩, 22) := ⟨⟨by decide +kernel, by decide +kernel⟩, List.mem_of_getElem? (i := 457) (by decide +kernel), List.mem_of_getElem? (i := 579) (by decide +kernel), List.mem_of_getElem? (i := 580) (by decide +kernel)⟩
theorem lw_p27 : lw_okq (⟨"FundBookModel", "bear", "(II)I"⟩, 22) := ⟨⟨by decide +kernel, by decide +kernel⟩, List.mem_of_getElem? (i := 457) (by decide +kernel), List.mem_of_getElem? (i := 588) (by decide +kernel), List.mem_of_getElem? (i := 589) (by decide +kernel)⟩
theorem lw_p28 : lw_okq (⟨"FundBookModel", "isPaid", "(I)I"⟩, 22) := ⟨⟨by decide +kernel, by decide +kernel⟩, List.mem_of_getElem? (i := 457) (by decide +kernel), List.mem_of_getElem? (i := 593) (by decide +kernel), List.mem_of_getElem? (i := 594) (by decide +kernel)⟩
theorem lw_p29 : lw_okq (⟨"FundBookModel", "replica", "()I"⟩, 22) := ⟨⟨by decide +kernel, by decide +kernel⟩, List.mem_of_getElem? (i := 457) (by decide +kernel), List.mem_of_getElem? (i := 597) (by decide +kernel), List.mem_of_getElem? (i := 598) (by decide +kernel)⟩
theorem lw_p30 : lw_okq (⟨"FundBookModel", "pays", "(I)I"⟩, 22) := ⟨⟨by decide +kernel, by decide +kernel⟩, List.mem_of_getElem? (i := 457) (by decide +kernel), List.mem_of_getElem? (i := 601) (by decide +kernel), List.mem_of_getElem? (i := 602) (by decide +kernel)⟩
theorem lw_p31 : lw_okq (⟨"FundBookModel", "isEnded", "(I)Z"⟩, 22) := ⟨⟨by decide +kernel, by decide +kernel⟩, List.mem_of_getElem? (i := 457) (by decide +kernel), List.mem_of_getElem? (i := 641) (by decide +kernel), List.mem_of_getElem? (i := 642) (by decide +kernel)⟩
def lw_privs_2 : List (MethodName × Nat) := [(⟨"FundBook", "reckonDeposits", "()V"⟩, 13), (⟨"FundBook", "paidForDeposits", "(II)I"⟩, 13), (⟨"FundBook", "payParts", "()V"⟩, 13), (⟨"FundBook$Loan", "payPart", "()V"⟩, 8), (⟨"FundBook$Loan", "partAhead", "(I)I"⟩, 8), (⟨"FundBook", "hasEnded", "(I)Z"⟩, 13), (⟨"FundBookModel", "fails", "(I)I"⟩, 22), (⟨"FundBookModel", "isLoan", "(I)Z"⟩, 22), (⟨"FundBookModel", "leftOf", "(I)I"⟩, 22), (⟨"FundBookModel", "lays", "(I)V"⟩, 22), (⟨"FundBookModel", "core", "()I"⟩, 22), (⟨"FundBookModel", "bear", "(II)I"⟩, 22), (⟨"FundBookModel", "isPaid", "(I)I"⟩, 22), (⟨"FundBookModel", "replica", "()I"⟩, 22), (⟨"FundBookModel", "pays", "(I)I"⟩, 22), (⟨"FundBookModel", "isEnded", "(I)Z"⟩, 22)]
theorem lw_r2 : ∀ q ∈ lw_privs_2, lw_okq q := List.forall_mem_cons.mpr ⟨lw_p16, List.forall_mem_cons.mpr ⟨lw_p17, List.forall_mem_cons.mpr ⟨lw_p18, List.forall_mem_cons.mpr ⟨lw_p19, List.forall_mem_cons.mpr ⟨lw_p20, List.forall_mem_cons.mpr ⟨lw_p21, List.forall_mem_cons.mpr ⟨lw_p22, List.forall_mem_cons.mpr ⟨lw_p23, List.forall_mem_cons.mpr ⟨lw_p24, List.forall_mem_cons.mpr ⟨lw_p25, List.forall_mem_cons.mpr ⟨lw_p26, List.forall_mem_cons.mpr ⟨lw_p27, List.forall_mem_cons.mpr ⟨lw_p28, List.forall_mem_cons.mpr ⟨lw_p29, List.forall_mem_cons.mpr ⟨lw_p30, List.forall_mem_cons.mpr ⟨lw_p31, fun _ h => absurd h List.not_mem_nil⟩⟩⟩⟩⟩⟩⟩⟩⟩⟩⟩⟩⟩⟩⟩⟩
def lw_privs : List (MethodName × Nat) := lw_privs_1 ++ (lw_privs_2)
def lw_tbl : List Cond := k2_sels lw_privs ++ tables_1
theorem lw_privs_ok : ∀ q ∈ lw_privs, lw_okq q := by
  show ∀ q ∈ lw_privs_1 ++ (lw_privs_2), lw_okq q
  exact List.forall_mem_append.mpr ⟨lw_r1, lw_r2⟩
-- ===== end of PART A; then your names; then what follows =====
end
section
/-! ===== BEGIN words of one list among another's, by their places ===== -/
theorem goodIn_r {big : List Cond} (ws : List Cond) (ps : List Nat) (hp : ws = ps.filterMap (fun i => big[i]?)) (h : ws.all goodWord = true) : GoodIn big ws := by
  intro w hw
  have h1 := List.all_eq_true.mp h w hw
  rw [hp] at hw
  obtain ⟨i, -, hi⟩ := List.mem_filterMap.mp hw
  have hm : w ∈ big := by first | exact List.mem_of_getElem? hi | exact List.getElem?_mem hi
  exact ⟨hm, good_of_word h1⟩
theorem goodIn_app {big a b : List Cond} (ha : GoodIn big a) (hb : GoodIn big b) : GoodIn big (a ++ b) := fun w h => (List.mem_append.mp h).elim (ha w) (hb w)
theorem goodIn_ca {big a b : List Cond} {c : Cond} (ha : GoodIn big (c :: a)) (hb : GoodIn big b) : GoodIn big (c :: (a ++ b)) := fun w h => (List.mem_cons.mp h).elim (fun e => ha w (List.mem_cons.mpr (Or.inl e))) (fun h => (List.mem_append.mp h).elim (fun h => ha w (List.mem_cons.mpr (Or.inr h))) (hb w))
theorem goodIn_sub {big ws : List Cond} (hm : ∀ w ∈ ws, w ∈ big) (h : ws.all goodWord = true) : GoodIn big ws := fun w hw => ⟨hm w hw, good_of_word (List.all_eq_true.mp h w hw)⟩
/-! ===== END ===== -/

/-! ===== BEGIN new T[n][m]: the outer array a place, the inner ones among the pooled ===== -/
/-- f, but v at every address of l -/
def vr_up {α : Type} (f : Nat → α) (l : List Nat) (v : α) : Nat → α := fun a => if a ∈ l then v else f a
theorem vr_up_in {α : Type} {f : Nat → α} {l : List Nat} {v : α} {a : Nat} (h : a ∈ l) : vr_up f l v a = v := if_pos h
theorem vr_up_ne {α : Type} {f : Nat → α} {l : List Nat} {v : α} {a : Nat} (h : a ∉ l) : vr_up f l v a = f a := if_neg h
theorem vr_rows {L l : List Nat} {f : Nat → va_E} {e : va_E} (h : ∀ a, a ∈ l → a ∉ L) : va_pl L f ++ l.map (fun a => (a, e)) = va_pl (L ++ l) (vr_up f l e) := by
  unfold va_pl
  rw [List.map_append]
  congr 1
  · apply List.map_congr_left
    intro a ha
    rw [vr_up_ne (fun q => h a q ha)]
  · apply List.map_congr_left
    intro a ha
    rw [vr_up_in ha]
theorem vr_lay {X rows : va_W} {x : Nat × va_E} {pl : va_W} {D : va_G} {cl : List vw_C} {H : Heap} (hP : va_P D cl (((X ++ pl) ++ [x]) ++ rows) H) : va_P D cl ((X ++ [x]) ++ (pl ++ rows)) H := by
  rw [List.append_assoc (X ++ pl)] at hP
  have h := va_P.swap hP
  rw [← List.append_assoc X] at h
  have h2 := va_P.swap h
  rw [List.append_assoc (X ++ [x])] at h2
  exact h2
theorem vr_layD {X rows : va_W} {x : Nat × va_E} {pl : va_W} {A : Nat → Prop} (hD : va_D A (((X ++ pl) ++ [x]) ++ rows)) : va_D A ((X ++ [x]) ++ (pl ++ rows)) := by
  rw [List.append_assoc (X ++ pl)] at hD
  have h := va_D.swap hD
  rw [← List.append_assoc X] at h
  have h2 := va_D.swap h
  rw [List.append_assoc (X ++ [x])] at h2
  exact h2
theorem vr_outer (c : ClassId) (N h0 : Nat) : ∀ i : Nat, Jvm.Free.Multi.outerC c N h0 i = arrV c N (fun j => va_rf (if j < i then some (h0 + 1 + j) else none))
  | 0 => by
    show ({ cls := c, slots := Array.replicate N .null, vm := .none } : Cell) = _
    rw [arrV_new]
    refine congrArg (arrV c N) (funext fun j => ?_)
    simp [va_rf]
  | i + 1 => by
    show (Jvm.Free.Multi.outerC c N h0 i).setSlot i (.ref (h0 + 1 + i)) = _
    rw [vr_outer c N h0 i, arrV_store]
    refine congrArg (arrV c N) (funext fun j => ?_)
    by_cases e : j = i
    · subst e
      simp [updV, va_rf]
    · by_cases h : j < i
      · simp [updV, e, h, Nat.lt_succ_of_lt h]
      · simp [updV, e, h, show ¬ j < i + 1 by omega]
/-- mine: that the array class over T[] is known, said without the call's arguments -/
def va_AOA (t : FieldType) (U : State) : Prop := (Cond.arrayOver (.array t)).before #[] U = true
theorem va_AOA.use {t : FieldType} {A : Array Value} {U : State} (h : va_AOA t U) : (Cond.arrayOver (.array t)).before A U = true := h
section VGM
variable {p : Program} {l : Launch} {e : Env} {R : Room} {s : State} {m : MethodId} {args : Array Value} {below : List Frame} {meth : Method} {c : Code} {H : Heap} {locs : List Loc} {cells slots : Nat} {Q : State → Prop}
variable {cc : ByteArray} {pc : Nat} {ls : Array Slot} {rest : List Value} {D : va_G} {cl : List vw_C} {A : Nat → Prop} {a : Nat} {tys : List (ClassId × FieldType)} {ws : va_W} {H0 : Heap}
theorem va_mna {X : va_W} {L : List Nat} {f : Nat → va_E} {cc : ByteArray} (hexec : p.tables.exec = Jvm.exec) (hb : c.code = cc) {own : String} {index : Nat} {ty : FieldType} {cy : ClassId} (hown : s.vm.findClass own = some m.cls) (hclink : (Cond.classLink own index ("[" ++ (FieldType.array ty).toString)).before args s = true) (hover : va_AOA ty s) (harr : (Cond.arrayClass ty).before args s = true) (hcy : s.vm.findClass (FieldType.array ty).toString = some cy)
    (hK : va_K D cl tys s) (hP : va_P D cl (X ++ va_pl L f) H) (hD : va_D A (X ++ va_pl L f)) (hS : va_S A H0 H locs) (hA : ∀ q, H0.size ≤ q → A q) {n k : Int32} {N' K' : Nat} {z : vp_A} (hn : ¬ n < 0) (hk : ¬ k < 0) (hN : n.toNatClampNeg = N') (hM : k.toNatClampNeg = K')
    (hb1 : N' * 4 ≤ 536870912) (hb2 : K' * componentBytes ty ≤ 536870912) (hb3 : K' ≤ 536870912) (hdf : fits ty (defaultValue ty) = true) (hdd : (defaultValue ty).isDefault = true) (hcells : cells + (1 + N') ≤ R.cells) (hslots : slots + (N' + N' * K') ≤ R.slots) (hz : ∀ c : ClassId, Jvm.Free.Multi.innerC c K' (defaultValue ty) = vp_cell c z) (hdg : decode cc pc = .ok (.multianewarray index 2, 4))
    (kk : ∀ (q : Nat) (r : Nat → Nat) (cA : ClassId) (H1 : Heap), (∀ i j : Nat, i < N' → j < N' → r i = r j → i = j) → (∀ i : Nat, i < N' → r i ∉ L) → va_K D cl (tys ++ [(cA, .array ty)]) s →
      va_P D cl ((X ++ [(q, .inl (cA, N', .inr (.inr (.inr (.inr (fun i => if i < N' then some (r i) else none))))))]) ++ va_pl (L ++ (List.range N').map r) (vr_up f ((List.range N').map r) (.inl (cy, z)))) H1 → va_D A ((X ++ [(q, .inl (cA, N', .inr (.inr (.inr (.inr (fun i => if i < N' then some (r i) else none))))))]) ++ va_pl (L ++ (List.range N').map r) (vr_up f ((List.range N').map r) (.inl (cy, z)))) → va_S A H0 H1 locs →
      W p l e R s m args below meth c H1 locs (cells + 1 + N') (slots + N' + N' * K') Q (F0 m (pc + 4) ls (.ref q :: rest))) : W p l e R s m args below meth c H locs cells slots Q (F0 m pc ls (.int k :: .int n :: rest)) := by
  subst hN
  subst hM
  intro T hT Xs
  obtain ⟨vm₁, cA, comp, -, fA, fC, hO, -, X', step⟩ := Xs.multianewarray2F hexec hown hclink (va_AOA.use hover) harr (g := F0 m pc ls (.int k :: .int n :: rest)) rfl (by rw [hb]; exact hdg) rfl hn hk hb1 hb2 hb3 hdf hdd hcells hslots
  have ec : some cy = some comp := hcy.symm.trans fC
  cases ec
  generalize hF : Jvm.Free.Multi.fill (T.setVm vm₁) cA cy n.toNatClampNeg k.toNatClampNeg (defaultValue ty) n.toNatClampNeg = F at X' step
  have hTh : (T.setVm vm₁).heap = H := hT
  obtain ⟨f1, f2, -, -⟩ := Jvm.Free.Multi.fill_facts (T.setVm vm₁) cA cy n.toNatClampNeg k.toNatClampNeg (defaultValue ty) n.toNatClampNeg
  rw [hF, hTh] at f1 f2
  have hold : ∀ x : Nat, x < H.size → F.heap[x]? = H[x]? := fun x hx => by
    have := Jvm.Free.Multi.fill_old (T.setVm vm₁) cA cy n.toNatClampNeg k.toNatClampNeg (defaultValue ty) (a := x) (by rw [hTh]; exact hx) n.toNatClampNeg
    rw [hF, hTh] at this
    exact this
  have hrow : ∀ j : Nat, j < n.toNatClampNeg → F.heap[H.size + 1 + j]? = some (vp_cell cy z) := fun j hj => by
    have := Jvm.Free.Multi.fill_inner (T.setVm vm₁) cA cy n.toNatClampNeg k.toNatClampNeg (defaultValue ty) n.toNatClampNeg j hj
    rw [hF, hTh, hz] at this
    exact this
  have hout : Jvm.Free.Multi.outerC cA n.toNatClampNeg H.size n.toNatClampNeg = vp_cell cA (n.toNatClampNeg, .inr (.inr (.inr (.inr (fun i => if i < n.toNatClampNeg then some (H.size + 1 + i) else none))))) := by
    rw [vp_cell_q]
    exact vr_outer cA n.toNatClampNeg H.size n.toNatClampNeg
  rw [hout] at f2
  have hlt : ∀ a, a ∈ L → a < H.size := fun a ha => by
    obtain ⟨k9, hk9⟩ := va_pl_get (X := X) (f := f) ha
    exact (hP k9 _ hk9).lt
  have hnl : ∀ i : Nat, i < n.toNatClampNeg → H.size + 1 + i ∉ L := fun i _ h => by
    have := hlt _ h
    omega
  have hnm : ∀ a, a ∈ (List.range n.toNatClampNeg).map (fun i => H.size + 1 + i) → a ∉ L := fun a ha h => by
    obtain ⟨i, -, rfl⟩ := List.mem_map.mp ha
    have := hlt _ h
    omega
  have hP0 : va_P D cl (X ++ va_pl L f) F.heap := hP.kept (fun k9 x hx => hold x.1 ((hP k9 x hx).lt))
  have hP1 : va_P D cl ((X ++ va_pl L f) ++ [(H.size, .inl (cA, n.toNatClampNeg, .inr (.inr (.inr (.inr (fun i => if i < n.toNatClampNeg then some (H.size + 1 + i) else none))))))]) F.heap := hP0.app (fun k9 x hx => by
    have h0 : k9 < 1 := (List.getElem?_eq_some_iff.mp hx).1
    rw [show k9 = 0 by omega] at hx
    cases hx
    exact f2)
  have hP2 : va_P D cl (((X ++ va_pl L f) ++ [(H.size, .inl (cA, n.toNatClampNeg, .inr (.inr (.inr (.inr (fun i => if i < n.toNatClampNeg then some (H.size + 1 + i) else none))))))]) ++ ((List.range n.toNatClampNeg).map (fun i => H.size + 1 + i)).map (fun a => (a, .inl (cy, z)))) F.heap := hP1.app (fun k9 x hx => by
    obtain ⟨a, ha, rfl⟩ := List.mem_map.mp (List.mem_of_getElem? hx)
    obtain ⟨i, hi, rfl⟩ := List.mem_map.mp ha
    exact hrow i (List.mem_range.mp hi))
  have hD2 : va_D A (((X ++ va_pl L f) ++ [(H.size, .inl (cA, n.toNatClampNeg, .inr (.inr (.inr (.inr (fun i => if i < n.toNatClampNeg then some (H.size + 1 + i) else none))))))]) ++ ((List.range n.toNatClampNeg).map (fun i => H.size + 1 + i)).map (fun a => (a, .inl (cy, z)))) := by
    have hD1 := hD.push (e := .inl (cA, n.toNatClampNeg, .inr (.inr (.inr (.inr (fun i => if i < n.toNatClampNeg then some (H.size + 1 + i) else none)))))) hP rfl (hA _ hS.1)
    generalize hW1 : (X ++ va_pl L f) ++ [(H.size, .inl (cA, n.toNatClampNeg, .inr (.inr (.inr (.inr (fun i => if i < n.toNatClampNeg then some (H.size + 1 + i) else none))))))] = W1 at hD1 hP1 ⊢
    have hle : ∀ (k9 : Nat) (x : Nat × va_E), W1[k9]? = some x → x.1 ≤ H.size := fun k9 x hx => by
      rw [← hW1] at hx
      by_cases hl : k9 < (X ++ va_pl L f).length
      · rw [List.getElem?_append_left hl] at hx
        exact Nat.le_of_lt ((hP k9 x hx).lt)
      · rw [List.getElem?_append_right (by omega)] at hx
        have h0 : k9 - (X ++ va_pl L f).length < 1 := (List.getElem?_eq_some_iff.mp hx).1
        rw [show k9 - (X ++ va_pl L f).length = 0 by omega] at hx
        cases hx
        exact Nat.le_refl _
    have hr : ∀ (k9 : Nat) (x : Nat × va_E), (((List.range n.toNatClampNeg).map (fun i => H.size + 1 + i)).map (fun a => ((a, .inl (cy, z)) : Nat × va_E)))[k9]? = some x → x.1 = H.size + 1 + k9 := fun k9 x hx => by
      rw [List.getElem?_map, List.getElem?_map] at hx
      by_cases h9 : k9 < n.toNatClampNeg
      · rw [List.getElem?_range h9] at hx
        cases hx
        rfl
      · have hn0 : (List.range n.toNatClampNeg)[k9]? = none := List.getElem?_eq_none (by rw [List.length_range]; omega)
        rw [hn0] at hx
        cases hx
    refine ⟨fun i j x y hi hj hxy => ?_, fun k9 x hx => ?_⟩
    · by_cases h1 : i < W1.length <;> by_cases h2 : j < W1.length
      · rw [List.getElem?_append_left h1] at hi
        rw [List.getElem?_append_left h2] at hj
        exact hD1.1 i j x y hi hj hxy
      · rw [List.getElem?_append_left h1] at hi
        rw [List.getElem?_append_right (by omega)] at hj
        have := hle _ _ hi
        have := hr _ _ hj
        omega
      · rw [List.getElem?_append_right (by omega)] at hi
        rw [List.getElem?_append_left h2] at hj
        have := hle _ _ hj
        have := hr _ _ hi
        omega
      · rw [List.getElem?_append_right (by omega)] at hi hj
        have := hr _ _ hi
        have := hr _ _ hj
        omega
    · by_cases h1 : k9 < W1.length
      · rw [List.getElem?_append_left h1] at hx
        exact hD1.2 k9 x hx
      · rw [List.getElem?_append_right (by omega)] at hx
        have := hr _ _ hx
        exact hA _ (by have := hS.1; omega)
  have hAr : ArrOfT s cA (.array ty) := fun N9 z9 => by
    obtain ⟨-, k9, hk9, cm9, hkk9⟩ := (hO 0 0 0).1
    exact ⟨(fun q hq => by cases hq), k9, hk9, cm9, hkk9⟩
  have hK2 : va_K D cl (tys ++ [(cA, .array ty)]) s := ⟨hK.1, fun k9 x hx => by
    by_cases hl : k9 < tys.length
    · rw [List.getElem?_append_left hl] at hx
      exact hK.2 k9 x hx
    · rw [List.getElem?_append_right (by omega)] at hx
      have h0 : k9 - tys.length < 1 := (List.getElem?_eq_some_iff.mp hx).1
      rw [show k9 - tys.length = 0 by omega] at hx
      cases hx
      exact ⟨hAr, fA⟩⟩
  obtain ⟨t, a1, b1⟩ := kk H.size (fun i => H.size + 1 + i) cA F.heap (fun i j _ _ h => by have h9 : H.size + 1 + i = H.size + 1 + j := h; omega) hnl hK2 (by rw [← vr_rows hnm]; exact vr_lay hP2) (by rw [← vr_rows hnm]; exact vr_layD hD2) ⟨by rw [f1]; have := hS.1; omega, fun x h1 h2 => (hold x (Nat.lt_of_lt_of_le h1 hS.1)).trans (hS.2.1 x h1 h2), hS.2.2⟩ F rfl X'
  refine ⟨t, step t ?_, b1⟩
  have e : T.heap.size = H.size := by rw [hT]
  rw [e]
  exact a1
end VGM
/-! ===== END ===== -/

/-! ===== BEGIN exceptions that leave a method, and their catching by the caller (launches without stack traces) ===== -/
section VXA
/-! The laws vx_back, vx_callV, vx_callS, vx_callSW, vx_throw0, vx_throwS follow proofs of the library, with one case more: JvmDerived/Free/Laws.lean (Back.of_free), Shelf42/LK1.lean (callV, callS), Shelf/KitTraced.lean (throwNew0V, throwNewS). -/
/-- where a method has thrown q: the class by its name, the cell, what was written, the world -/
def vx_T (XC : String → State → State → Prop) (st : State) (q : Addr) (t : State) (mc ms : Nat) (free : Addr → Prop) : Prop :=
  ∃ (E : String) (ce : Cell) (L : List Loc), XC E st t ∧ t.heap[q]? = some ce ∧ ce.vm = .none ∧ st.vm.findClass E = some ce.cls ∧ st.WarmedH t.vm ∧ st.sameButNew ({ t with vm := st.vm } : State) L mc ms ∧ ∀ z ∈ L, free z.base
def vx_Q (Qc : Array Value → State → Outcome → State → Prop) (XC : String → State → State → Prop) (mc ms : Nat) (free : Addr → Prop) : Array Value → State → Outcome → State → Prop := fun a st o t =>
  (Qc a st o t ∧ ∃ L, FrameEnd st o t L mc ms ∧ ∀ q ∈ L, free q.base) ∨ ∃ q, o = .threw q ∧ vx_T XC st q t mc ms free
/-- a callee that returns or throws -/
def vx_Met (l : Launch) (y : MethodName) (ws : List Cond) (rm : Room) (Pc : Array Value → State → Prop) (Qc : Array Value → State → Outcome → State → Prop) (XC : String → State → State → Prop) (mc ms : Nat) (free : Addr → Prop) : Prop :=
  MetFree l y (headSpec ws rm) Pc (fun _ _ _ _ _ => True) (vx_Q Qc XC mc ms free)
def vx_Post (XC : String → State → State → Prop) (mc ms : Nat) (free : Addr → Prop) : Pt → Array Value → Addr → Pt → Prop := fun A a q B =>
  ∃ (g : JFrame) (mk : MethodId) (t : State) (L : List Loc) (E : String) (ce : Cell), B.U.heap = t.heap ∧ B.U.vm = t.vm ∧ XC E (A.U.calling g mk a) t ∧ t.heap[q]? = some ce ∧ ce.vm = .none ∧ A.U.vm.findClass E = some ce.cls ∧ B.locs = A.locs ++ L ∧ (∀ z ∈ L, free z.base) ∧ B.cells = A.cells + mc ∧ B.slots = A.slots + ms
def vx_Back (l : Launch) (R : Room) (p : Program) (e : Env) (below : List Frame) (s : State) (sargs : Array Value) (y : MethodName) (len W9 : Nat)
    (Pre : Pt → Array Value → Prop) (Post : Pt → Array Value → Option Value → Pt → Prop) (PostX : Pt → Array Value → Addr → Pt → Prop) : Prop :=
  ∀ (m : MethodId) (meth : Method) (c : Code) (A : Pt) (g : JFrame) (ig : Instr) (mk : MethodId) (a : Array Value),
    Stand p l e R s m sargs below meth c A.U A.locs A.cells A.slots → g.method = m → g.locals.size = c.maxLocals → decode c.code g.pc = .ok (ig, len) →
    2 * g.monitorRoom + (g.stack.map fun v => v.category).sum ≤ W9 → A.U.methodNamed? y = some mk → Pre A a →
    (∃ (v : Option Value) (B : Pt), Stand p l e R s m sargs below meth c B.U B.locs B.cells B.slots ∧ Post A a v B ∧
      Steps p.tables e below (doInvoke e (A.U.setTop g) [] mk a).1 (B.U.setTop { g with pc := g.pc + len, stack := v.toList ++ g.stack })) ∨
    (∃ (q : Addr) (B : Pt), Stand p l e R s m sargs below meth c B.U B.locs B.cells B.slots ∧ PostX A a q B ∧
      Steps p.tables e below (doInvoke e (A.U.setTop g) [] mk a).1 ((B.U.setTop g).pushFrame (.throwing q)))
section Payer
variable {l : Launch} {R : Room} {p : Program} {e : Env} {below : List Frame} {s : State} {sargs : Array Value} {y : MethodName} {len W9 : Nat}
theorem vx_back {ws : List Cond} {rm : Room} {Pc : Array Value → State → Prop} {Qc : Array Value → State → Outcome → State → Prop} {XC : String → State → State → Prop} {mc ms : Nat} {free : Addr → Prop} {bytes : ByteArray} {maxL : Nat} {ret : Option FieldType}
    (hM : vx_Met l y ws rm Pc Qc XC mc ms free) (hblind : FrameBlind Pc) (hrc : rm.cells = mc) (hrs : rm.slots = ms)
    (hframes : rm.frames + 1 ≤ R.frames) (hlocals : W9 + (maxL + 11) + rm.locals ≤ R.locals)
    (hws : ∀ w ∈ ws, ∀ a' U, s.WarmedH U.vm → w.before a' U = true) (hcode : Cond.code y bytes maxL ret ∈ ws) (hinit : ∀ a' U, s.WarmedH U.vm → (Cond.initialized y.cls).before a' U = true) :
    vx_Back l R p e below s sargs y len W9 (PreOf R mc ms Pc) (PostOf Qc mc ms free) (vx_Post XC mc ms free) := by
  intro m meth c A g ig mk a X hg hsize hdg hW hn hp
  have h1 : (headSpec ws rm).pre.before a A.U = true := atoms_intro fun w hw => hws w hw _ _ X.warmed
  have h2 : (Cond.code y bytes maxL ret).before a A.U = true := hws _ hcode _ _ X.warmed
  have h3 : (Cond.initialized y.cls).before a A.U = true := hinit _ _ X.warmed
  have h4 : A.cells + (headSpec ws rm).room.cells ≤ R.cells := by rw [show (headSpec ws rm).room.cells = mc from hrc]; exact hp.1
  have h5 : A.slots + (headSpec ws rm).room.slots ≤ R.slots := by rw [show (headSpec ws rm).room.slots = ms from hrs]; exact hp.2.1
  have hPc : Pc a (A.U.calling g mk a) := hblind _ _ _ _ hp.2.2
  obtain ⟨U, Ls, c0, s0⟩ := A
  dsimp only [Pt.U, Pt.locs, Pt.cells, Pt.slots] at h1 h2 h3 h4 h5 X hn hPc ⊢
  obtain ⟨methY, cY, hmY, hcY, -, hlY, -, -, -, -⟩ := Cond.code_spec hn h2
  obtain ⟨kY, hkY, -⟩ := className_of_methodNamed hn
  have hinitY : kY.init = .initialized := Cond.initialized_spec (findClass_of_methodNamed hn) hkY h3
  have h : At U g.method c below := by rw [hg]; exact X.here
  have hlocals9 : W9 + (maxL + 11) + (headSpec ws rm).room.locals ≤ R.locals := hlocals
  have happ : (headSpec ws rm).appliesLoose y e.platform (U.calling g mk a) = true :=
    Spec.appliesLoose_calling (g := g) h hdg hn hkY hinitY
      (X.room_calling (g := g) (R' := (headSpec ws rm).room) hsize hmY hcY hframes (by rw [hlY]; omega) h4 h5) h1
  obtain ⟨mid, hmid⟩ := h.above
  have hfr : (U.setTop g).frames = (.java g :: mid) ++ below := by rw [State.frames_setTop' g h.top, hmid]; rfl
  obtain ⟨o, s₂, hsteps, -, hend, hq⟩ := Steps.callFree hM p X.admits X.cas X.clock (acts := []) hfr happ hPc trivial
  have hq' : vx_Q Qc XC mc ms free a (U.calling g mk a) o s₂ := hq
  rw [State.frames_setTop' g h.top] at hend
  obtain ⟨g₀, hg0⟩ := Option.isSome_iff_exists.mp h.top
  obtain ⟨r, hr⟩ := State.topJava?_eq_some.mp hg0
  have hr' : (({ U with heap := s₂.heap, slotsUsed := s₂.slotsUsed } : State).setVm s₂.vm).frames = .java g₀ :: r := hr
  rcases hq' with ⟨hqc, L, hfe, hL⟩ | ⟨q, rfl, E, ce, L, hx, hce, hcv, hcl, hW₂, hsm, hL⟩
  · obtain ⟨⟨v, rfl⟩, hW₂, e2, q2, q3, q4, q5, q6⟩ := id hfe
    have e3 : s₂ = ({ (U.calling g mk a).setFrames s₂.frames with heap := s₂.heap, slotsUsed := s₂.slotsUsed } : State).setVm s₂.vm := by
      have : s₂ = ({ s₂ with vm := (U.calling g mk a).vm } : State).setVm s₂.vm := rfl
      rw [e2] at this
      exact this
    obtain ⟨c₂, i₂, len₂, hc₂, hd₂, hf₂⟩ := hend
    have hW' : U.WarmedH s₂.vm := hW₂
    have hcc : c₂ = c := by
      have h1 : s₂.code? g.method = U.code? g.method := by
        rw [State.code?_eq, State.code?_eq, hW'.alike.method?]
      exact Option.some.inj (hc₂.symm.trans (h1.trans h.code))
    subst hcc
    have hlen : len₂ = len := by rw [hdg] at hd₂; cases hd₂; rfl
    subst hlen
    have hs₂ : s₂ = (({ U with heap := s₂.heap, slotsUsed := s₂.slotsUsed } : State).setVm s₂.vm).setTop { g with pc := g.pc + len₂, stack := v.toList ++ g.stack } := by
      refine e3.trans ?_
      rw [hf₂, State.calling_eq h.top, State.setFrames_setFrames, State.setTop_of_frames _ hr', hr]
      rfl
    have hsame : U.sameButNew ({ U with heap := s₂.heap, slotsUsed := s₂.slotsUsed } : State) L mc ms := by
      refine ⟨?_, q2, q3, q4, q5, q6⟩
      obtain ⟨t, ht, -⟩ := State.frames_cons hr
      show ({ U with heap := s₂.heap, slotsUsed := s₂.slotsUsed } : State) = { U.setFrames U.frames with heap := s₂.heap, slotsUsed := s₂.slotsUsed }
      rw [State.setFrames_self ht]
    subst hg
    refine Or.inl ⟨v, ⟨(({ U with heap := s₂.heap, slotsUsed := s₂.slotsUsed } : State).setVm s₂.vm), Ls ++ L, c0 + mc, s0 + ms⟩,
      ⟨X.admits, X.cas, X.clock, X.frames, X.room, X.hears, X.method, X.code, (X.here.setHeapUsed s₂.heap s₂.slotsUsed).setVm hW'.alike, X.tail, State.WarmedH.trans X.warmed hW', X.limits, X.bytes, X.same.trans (hsame.setVm s.vm)⟩,
      ⟨g, mk, s₂, L, rfl, rfl, hqc, rfl, hL, rfl, rfl⟩, ?_⟩
    show Steps p.tables e below _ ((({ U with heap := s₂.heap, slotsUsed := s₂.slotsUsed } : State).setVm s₂.vm).setTop { g with pc := g.pc + len₂, stack := v.toList ++ g.stack })
    rw [← hs₂]
    exact hsteps
  · obtain ⟨e2, q2, q3, q4, q5, q6⟩ := id hsm
    have e3 : s₂ = ({ (U.calling g mk a).setFrames s₂.frames with heap := s₂.heap, slotsUsed := s₂.slotsUsed } : State).setVm s₂.vm := by
      have : s₂ = ({ s₂ with vm := (U.calling g mk a).vm } : State).setVm s₂.vm := rfl
      rw [e2] at this
      exact this
    have hf₂ : s₂.frames = .throwing q :: .java g :: U.frames.tail := hend
    have hW' : U.WarmedH s₂.vm := hW₂
    have hs₂ : s₂ = ((({ U with heap := s₂.heap, slotsUsed := s₂.slotsUsed } : State).setVm s₂.vm).setTop g).pushFrame (.throwing q) := by
      refine e3.trans ?_
      rw [hf₂, State.calling_eq h.top, State.setFrames_setFrames, State.pushFrame, State.frames_setTop _ hr', State.setTop_of_frames _ hr', State.setFrames_setFrames, hr]
      rfl
    have hsame : U.sameButNew ({ U with heap := s₂.heap, slotsUsed := s₂.slotsUsed } : State) L mc ms := by
      refine ⟨?_, q2, q3, q4, q5, q6⟩
      obtain ⟨t, ht, -⟩ := State.frames_cons hr
      show ({ U with heap := s₂.heap, slotsUsed := s₂.slotsUsed } : State) = { U.setFrames U.frames with heap := s₂.heap, slotsUsed := s₂.slotsUsed }
      rw [State.setFrames_self ht]
    subst hg
    refine Or.inr ⟨q, ⟨(({ U with heap := s₂.heap, slotsUsed := s₂.slotsUsed } : State).setVm s₂.vm), Ls ++ L, c0 + mc, s0 + ms⟩,
      ⟨X.admits, X.cas, X.clock, X.frames, X.room, X.hears, X.method, X.code, (X.here.setHeapUsed s₂.heap s₂.slotsUsed).setVm hW'.alike, X.tail, State.WarmedH.trans X.warmed hW', X.limits, X.bytes, X.same.trans (hsame.setVm s.vm)⟩,
      ⟨g, mk, s₂, L, E, ce, rfl, rfl, hx, hce, hcv, hcl, rfl, hL, rfl, rfl⟩, ?_⟩
    show Steps p.tables e below _ (((({ U with heap := s₂.heap, slotsUsed := s₂.slotsUsed } : State).setVm s₂.vm).setTop g).pushFrame (.throwing q))
    rw [← hs₂]
    exact hsteps
end Payer
section Calls
variable {p : Program} {l : Launch} {e : Env} {R : Room} {s : State} {m : MethodId} {args : Array Value} {below : List Frame} {meth : Method} {c : Code} {T : State} {locs : List Loc} {cells slots : Nat}
theorem vx_callV (X : Stand p l e R s m args below meth c T locs cells slots) (hexec : p.tables.exec = Jvm.exec) {own C : String} {index : Nat} {y : MethodName} {bytes : ByteArray} {maxL : Nat} {ret : Option FieldType}
    (hown : s.vm.findClass own = some m.cls) (hlink : (Cond.methodLink own index y).before args s = true) (hinst : (Cond.instanceMethod y).before args s = true) (hsel : (Cond.selects C y y).before args s = true)
    (hcode : (Cond.code y bytes maxL ret).before args s = true) (hy : y.cls ≠ "java/lang/invoke/MethodHandle" ∧ y.cls ≠ "java/lang/invoke/VarHandle")
    {W9 : Nat} {Pre : Pt → Array Value → Prop} {Post : Pt → Array Value → Option Value → Pt → Prop} {PostX : Pt → Array Value → Addr → Pt → Prop} (hK : vx_Back l R p e below s args y 3 W9 Pre Post PostX)
    {b : Addr} {cellB : Cell} (hcell : T.heap[b]? = some cellB) (hobj : cellB.vm.isStatics = false) (hcls : s.vm.findClass C = some cellB.cls)
    {g : JFrame} (hg : g.method = m) (hsize : g.locals.size = c.maxLocals) {argsL rest : List Value} (hlen : ∀ sig, parseMethodDescriptor y.desc = some sig → argsL.length = sig.parameters.length)
    (hstack : g.stack = argsL.reverse ++ .ref b :: rest) (hW : 2 * g.monitorRoom + (rest.map fun v => v.category).sum ≤ W9) (hdg : decode c.code g.pc = .ok (.invokevirtual index, 3))
    (hpre : ∀ vm₁, s.WarmedH vm₁ → Pre ⟨T.setVm vm₁, locs, cells, slots⟩ (Value.ref b :: argsL).toArray) :
    (∃ (v : Option Value) (vm₁ : Vm) (B : Pt), s.WarmedH vm₁ ∧ Stand p l e R s m args below meth c B.U B.locs B.cells B.slots ∧ Post ⟨T.setVm vm₁, locs, cells, slots⟩ (Value.ref b :: argsL).toArray v B ∧
      ∀ target, Steps p.tables e below (B.U.setTop { g with pc := g.pc + 3, stack := v.toList ++ rest }) target → Steps p.tables e below (T.setTop g) target) ∨
    (∃ (q : Addr) (vm₁ : Vm) (B : Pt), s.WarmedH vm₁ ∧ Stand p l e R s m args below meth c B.U B.locs B.cells B.slots ∧ PostX ⟨T.setVm vm₁, locs, cells, slots⟩ (Value.ref b :: argsL).toArray q B ∧
      Steps p.tables e below (T.setTop g) ((B.U.setTop { g with stack := rest }).pushFrame (.throwing q))) := by
  obtain ⟨mk, methM, hnamed, hmethM, hstM, habM⟩ := Cond.instanceMethod_spec hinst
  obtain ⟨methM', cM, hmethM', -, -, -, -, -, -, hsigM⟩ := Cond.code_spec hnamed hcode
  cases hmethM.symm.trans hmethM'
  obtain ⟨c2, r2, m2, q1, q2, q3, q4, kP, hkP, hkPi⟩ := Cond.selects_spec hsel
  cases hcls.symm.trans q1
  cases (State.methodFound?_of_named hnamed hy).symm.trans q2
  cases hnamed.symm.trans q3
  have hselP : selectMethod e.platform s.vm cellB.cls mk = .method mk := by rw [Launch.admits_selectMethod X.admits]; exact q4
  obtain ⟨vm₁, X₁, hstep₁⟩ := X.invokevirtual hexec hown hlink hnamed hmethM hstM hkP hkPi hy (a := b) (cell := cellB) hcell
    (fun z h => by rw [h] at hobj; cases hobj) hselP hmethM habM hkP hkPi (g := g) hg (argsL := argsL) (rest := rest) (hlen _ hsigM) hstack hdg
  rcases hK m meth c ⟨T.setVm vm₁, locs, cells, slots⟩ { g with stack := rest } (.invokevirtual index) mk (Value.ref b :: argsL).toArray X₁ hg hsize hdg hW (X₁.named hnamed) (hpre vm₁ X₁.warmed) with ⟨v, B, X', hpost, hsteps⟩ | ⟨q, B, X', hpost, hsteps⟩
  · exact Or.inl ⟨v, vm₁, B, X₁.warmed, X', hpost, fun target h => hstep₁ _ fun acts => by rw [doInvoke_state]; exact hsteps.trans h⟩
  · exact Or.inr ⟨q, vm₁, B, X₁.warmed, X', hpost, hstep₁ _ fun acts => by rw [doInvoke_state]; exact hsteps⟩
theorem vx_callS (X : Stand p l e R s m args below meth c T locs cells slots) (hexec : p.tables.exec = Jvm.exec) {own : String} {index : Nat} {y : MethodName} {bytes : ByteArray} {maxL : Nat} {ret : Option FieldType}
    (hown : s.vm.findClass own = some m.cls) (hlink : (Cond.methodLink own index y).before args s = true) (hstat : (Cond.static y).before args s = true) (hinit : (Cond.initialized y.cls).before args s = true)
    (hcode : (Cond.code y bytes maxL ret).before args s = true) (hy : y.cls ≠ "java/lang/invoke/MethodHandle" ∧ y.cls ≠ "java/lang/invoke/VarHandle")
    {W9 : Nat} {Pre : Pt → Array Value → Prop} {Post : Pt → Array Value → Option Value → Pt → Prop} {PostX : Pt → Array Value → Addr → Pt → Prop} (hK : vx_Back l R p e below s args y 3 W9 Pre Post PostX)
    {g : JFrame} (hg : g.method = m) (hsize : g.locals.size = c.maxLocals) {argsL rest : List Value} (hlen : ∀ sig, parseMethodDescriptor y.desc = some sig → argsL.length = sig.parameters.length)
    (hstack : g.stack = argsL.reverse ++ rest) (hW : 2 * g.monitorRoom + (rest.map fun v => v.category).sum ≤ W9) (hdg : decode c.code g.pc = .ok (.invokestatic index, 3))
    (hpre : ∀ vm₁, s.WarmedH vm₁ → Pre ⟨T.setVm vm₁, locs, cells, slots⟩ argsL.toArray) :
    (∃ (v : Option Value) (vm₁ : Vm) (B : Pt), s.WarmedH vm₁ ∧ Stand p l e R s m args below meth c B.U B.locs B.cells B.slots ∧ Post ⟨T.setVm vm₁, locs, cells, slots⟩ argsL.toArray v B ∧
      ∀ target, Steps p.tables e below (B.U.setTop { g with pc := g.pc + 3, stack := v.toList ++ rest }) target → Steps p.tables e below (T.setTop g) target) ∨
    (∃ (q : Addr) (vm₁ : Vm) (B : Pt), s.WarmedH vm₁ ∧ Stand p l e R s m args below meth c B.U B.locs B.cells B.slots ∧ PostX ⟨T.setVm vm₁, locs, cells, slots⟩ argsL.toArray q B ∧
      Steps p.tables e below (T.setTop g) ((B.U.setTop { g with stack := rest }).pushFrame (.throwing q))) := by
  obtain ⟨mk, hnamed⟩ := Cond.code_named hcode
  obtain ⟨methM, cM, hmethM, -, -, -, -, -, -, hsigM⟩ := Cond.code_spec hnamed hcode
  have hstatic : methM.isStatic = true := Cond.static_spec hnamed hmethM hstat
  obtain ⟨kP, hkP, -⟩ := className_of_methodNamed hnamed
  have hinitP : kP.init = .initialized := Cond.initialized_spec (findClass_of_methodNamed hnamed) hkP hinit
  obtain ⟨vm₁, X₁, hstep₁⟩ := X.invokestatic hexec hown hlink hnamed hmethM hstatic hkP hinitP hy (g := g) hg (argsL := argsL) (rest := rest) (hlen _ hsigM) hstack hdg
  rcases hK m meth c ⟨T.setVm vm₁, locs, cells, slots⟩ { g with stack := rest } (.invokestatic index) mk argsL.toArray X₁ hg hsize hdg hW (X₁.named hnamed) (hpre vm₁ X₁.warmed) with ⟨v, B, X', hpost, hsteps⟩ | ⟨q, B, X', hpost, hsteps⟩
  · exact Or.inl ⟨v, vm₁, B, X₁.warmed, X', hpost, fun target h => hstep₁ _ fun acts => by rw [doInvoke_state]; exact hsteps.trans h⟩
  · exact Or.inr ⟨q, vm₁, B, X₁.warmed, X', hpost, hstep₁ _ fun acts => by rw [doInvoke_state]; exact hsteps⟩
end Calls
theorem vx_cls {s : State} {T : State} {vm₁ : Vm} {E : String} {k : ClassId} (hW : s.WarmedH vm₁) (h : (T.setVm vm₁).vm.findClass E = some k) : s.vm.findClass E = some k := by
  have h1 : vm₁.findClass E = some k := h
  rw [hW.alike.findClass] at h1
  exact h1
/-- the method's frame g, with q thrown over it -/
def vx_W (p : Program) (l : Launch) (e : Env) (R : Room) (s : State) (m : MethodId) (args : Array Value) (below : List Frame) (meth : Method) (c : Code) (H : Heap) (locs : List Loc) (cells slots : Nat) (Q : State → Prop) (g : JFrame) (q : Addr) : Prop :=
  ∀ T : State, T.heap = H → Stand p l e R s m args below meth c T locs cells slots → ∃ t, Steps p.tables e below ((T.setTop g).pushFrame (.throwing q)) t ∧ Q t
def vx_Run (p : Program) (l : Launch) (e : Env) (R : Room) (s : State) (m : MethodId) (args : Array Value) (below : List Frame) (meth : Method) (c : Code) (H : Heap) (locs : List Loc) (cells slots mc ms : Nat) (g : JFrame) (rest : List Value) (Qa : State → Outcome → State → Prop) (XC : String → State → State → Prop) (free : Addr → Prop) : Prop :=
  ∀ T : State, T.heap = H → Stand p l e R s m args below meth c T locs cells slots →
    (∃ (v : Option Value) (st₀ t T' : State) (L : List Loc), st₀.heap = H ∧ Stand p l e R s m args below meth c T' (locs ++ L) (cells + mc) (slots + ms) ∧ (∀ q ∈ L, free q.base) ∧ T'.heap = t.heap ∧ T'.vm = t.vm ∧ Qa st₀ (.returned v) t ∧
      Goes p e below T g T' { g with pc := g.pc + 3, stack := v.toList ++ rest }) ∨
    (∃ (q : Addr) (st₀ t T' : State) (L : List Loc) (E : String) (ce : Cell), st₀.heap = H ∧ Stand p l e R s m args below meth c T' (locs ++ L) (cells + mc) (slots + ms) ∧ (∀ z ∈ L, free z.base) ∧ T'.heap = t.heap ∧ T'.vm = t.vm ∧ XC E st₀ t ∧ t.heap[q]? = some ce ∧ ce.vm = .none ∧ s.vm.findClass E = some ce.cls ∧
      Steps p.tables e below (T.setTop g) ((T'.setTop { g with stack := rest }).pushFrame (.throwing q)))
def vx_X {S : Type} (px : S → Prop) (B : String → S → State → Prop) (A : Nat → Prop) : String → State → State → Prop := fun E st t => ∃ u : S, px u ∧ B E u t ∧ va_F A st t
section Runs
variable {p : Program} {l : Launch} {e : Env} {R : Room} {s : State} {m : MethodId} {args : Array Value} {below : List Frame} {meth : Method} {c : Code} {H : Heap} {locs : List Loc} {cells slots : Nat}
variable {y : MethodName} {bytes cc : ByteArray} {maxL nL mc ms n index : Nat} {ret : Option FieldType} {ws : List Cond} {rm : Room} {Pc : Array Value → State → Prop} {Qc : Array Value → State → Outcome → State → Prop} {XC : String → State → State → Prop} {free : Addr → Prop} {Ts : List Cond} {own C : String} {b : Addr} {As rest : List Value} {g : JFrame}
theorem vx_callBack (cb : CallB R s args own index y bytes maxL ret ws rm mc ms n) (hM : vx_Met l y ws rm Pc Qc XC mc ms free) (hbl : FrameBlind Pc) : vx_Back l R p e below s args y 3 8 (PreOf R mc ms Pc) (PostOf Qc mc ms free) (vx_Post XC mc ms free) := by
  obtain ⟨hrc, hrs, hfr, hlo, hws, hcw, -, hini, -⟩ := cb
  exact vx_back (bytes := bytes) (maxL := maxL) (ret := ret) hM hbl hrc hrs hfr hlo hws hcw (fun a' U hW => word_at hW (Or.inl (by first | rfl | simp [Cond.onTables, Cond.keeps, Cond.steady])) hini)
theorem vx_runV (S : CallFix p m c cc nL s args Ts own) (hM : vx_Met l y ws rm Pc Qc XC mc ms free) (cw : CallW R s args own C index y bytes maxL ret ws rm mc ms n) (hp : PreV s H C b Pc As)
    (hg : g.method = m) (hn : As.length = n) (hsize : g.locals.size = nL) (hstack : g.stack = As.reverse ++ .ref b :: rest) (hW : 2 * g.monitorRoom + (rest.map fun v => v.category).sum ≤ 8) (hdg : decode cc g.pc = .ok (.invokevirtual index, 3)) (hf : cells + mc ≤ R.cells ∧ slots + ms ≤ R.slots) :
    vx_Run p l e R s m args below meth c H locs cells slots mc ms g rest (Qc (Value.ref b :: As).toArray) XC free := by
  have hK : vx_Back l R p e below s args y 3 8 (PreOf R mc ms Pc) (PostOf Qc mc ms free) (vx_Post XC mc ms free) := vx_callBack cw.1 hM hp.1
  obtain ⟨⟨-, -, -, -, -, -, hcode, -, hy, hlen, hl⟩, hin, hse⟩ := cw
  obtain ⟨hx, hb, hml, ho, -⟩ := S
  obtain ⟨-, ⟨cellB, hcB, hoB, hclB⟩, hPc⟩ := hp
  intro T hT X
  rcases vx_callV X hx (C := C) (bytes := bytes) (maxL := maxL) (ret := ret) ho hl hin hse hcode hy hK (by rw [hT]; exact hcB) hoB hclB hg (hsize.trans hml.symm) (argsL := As) (rest := rest) (fun sig h => hn.trans (hlen sig h)) hstack hW (by rw [hb]; exact hdg)
    (fun vm₁ hW₁ => ⟨hf.1, hf.2, hPc (T.setVm vm₁) hT hW₁⟩) with ⟨v, vm₁, ⟨U', l2, c2, s2⟩, hW₁, X', ⟨g', mk, t, L, e1, e2, hq, h1, hL, h2, h3⟩, st⟩ | ⟨q, vm₁, ⟨U', l2, c2, s2⟩, hW₁, X', ⟨g', mk, t, L, E, ce, e1, e2, hq, hce, hcv, hcl, h1, hL, h2, h3⟩, st⟩
  · dsimp only [Pt.U, Pt.locs, Pt.cells, Pt.slots] at X' e1 e2 h1 h2 h3 st
    subst h1; subst h2; subst h3
    exact Or.inl ⟨v, (T.setVm vm₁).calling g' mk (Value.ref b :: As).toArray, t, U', L, hT, X', hL, e1, e2, hq, st⟩
  · dsimp only [Pt.U, Pt.locs, Pt.cells, Pt.slots] at X' e1 e2 h1 h2 h3 st hcl
    subst h1; subst h2; subst h3
    exact Or.inr ⟨q, (T.setVm vm₁).calling g' mk (Value.ref b :: As).toArray, t, U', L, E, ce, hT, X', hL, e1, e2, hq, hce, hcv, vx_cls hW₁ hcl, st⟩
theorem vx_runS (S : CallFix p m c cc nL s args Ts own) (hM : vx_Met l y ws rm Pc Qc XC mc ms free) (cw : CallB R s args own index y bytes maxL ret ws rm mc ms n ∧ (Cond.static y).before args s = true) (hp : PreS s H Pc As)
    (hg : g.method = m) (hn : As.length = n) (hsize : g.locals.size = nL) (hstack : g.stack = As.reverse ++ rest) (hW : 2 * g.monitorRoom + (rest.map fun v => v.category).sum ≤ 8) (hdg : decode cc g.pc = .ok (.invokestatic index, 3)) (hf : cells + mc ≤ R.cells ∧ slots + ms ≤ R.slots) :
    vx_Run p l e R s m args below meth c H locs cells slots mc ms g rest (Qc As.toArray) XC free := by
  have hK : vx_Back l R p e below s args y 3 8 (PreOf R mc ms Pc) (PostOf Qc mc ms free) (vx_Post XC mc ms free) := vx_callBack cw.1 hM hp.1
  obtain ⟨⟨-, -, -, -, -, -, hcode, hini, hy, hlen, hl⟩, hstt⟩ := cw
  obtain ⟨hx, hb, hml, ho, -⟩ := S
  intro T hT X
  rcases vx_callS X hx (bytes := bytes) (maxL := maxL) (ret := ret) ho hl hstt hini hcode hy hK hg (hsize.trans hml.symm) (argsL := As) (rest := rest) (fun sig h => hn.trans (hlen sig h)) hstack hW (by rw [hb]; exact hdg)
    (fun vm₁ hW₁ => ⟨hf.1, hf.2, hp.2 (T.setVm vm₁) hT hW₁⟩) with ⟨v, vm₁, ⟨U', l2, c2, s2⟩, hW₁, X', ⟨g', mk, t, L, e1, e2, hq, h1, hL, h2, h3⟩, st⟩ | ⟨q, vm₁, ⟨U', l2, c2, s2⟩, hW₁, X', ⟨g', mk, t, L, E, ce, e1, e2, hq, hce, hcv, hcl, h1, hL, h2, h3⟩, st⟩
  · dsimp only [Pt.U, Pt.locs, Pt.cells, Pt.slots] at X' e1 e2 h1 h2 h3 st
    subst h1; subst h2; subst h3
    exact Or.inl ⟨v, (T.setVm vm₁).calling g' mk As.toArray, t, U', L, hT, X', hL, e1, e2, hq, st⟩
  · dsimp only [Pt.U, Pt.locs, Pt.cells, Pt.slots] at X' e1 e2 h1 h2 h3 st hcl
    subst h1; subst h2; subst h3
    exact Or.inr ⟨q, (T.setVm vm₁).calling g' mk As.toArray, t, U', L, E, ce, hT, X', hL, e1, e2, hq, hce, hcv, vx_cls hW₁ hcl, st⟩
end Runs
section Rows
variable {p : Program} {l : Launch} {e : Env} {R : Room} {s : State} {m : MethodId} {args : Array Value} {below : List Frame} {meth : Method} {c : Code} {H : Heap} {locs : List Loc} {cells slots : Nat} {Q : State → Prop}
variable {mc ms : Nat} {free : Addr → Prop} {A0 A1 : Nat → Prop} {H0 : Heap} {a : Array Value} {pc : Nat} {ls : Array Slot} {st0 rest : List Value}
theorem vx_keep {st₀ t T' : State} {L : List Loc} (h0 : st₀.heap = H) (e1 : T'.heap = t.heap) (hS : va_S A0 H0 H locs) (hA : ∀ q, q < H.size → A1 q → A0 q) (hf : ∀ q, free q → A0 q) (hL : ∀ q ∈ L, free q.base) (hF : va_F A1 st₀ t) :
    H.size ≤ T'.heap.size ∧ (∀ q : Nat, q < H.size → ¬ A1 q → T'.heap[q]? = H[q]?) ∧ va_S A0 H0 T'.heap (locs ++ L) := by
  obtain ⟨hz, hk⟩ := hF
  rw [h0] at hz hk
  exact ⟨by rw [e1]; exact hz, fun q h1 h2 => by rw [e1]; exact hk q h1 h2,
    ⟨Nat.le_trans hS.1 (by rw [e1]; exact hz), fun q h1 h2 => by rw [e1, hk q (Nat.lt_of_lt_of_le h1 hS.1) (fun z => h2 (hA q (Nat.lt_of_lt_of_le h1 hS.1) z))]; exact hS.2.1 q h1 h2, fun q hq => by
      rcases List.mem_append.mp hq with h | h
      · exact hS.2.2 q h
      · exact hf _ (hL q h)⟩⟩
theorem vx_calli {S SX : Type} {post : Int32 → S → Prop} {px : SX → Prop} {B : S → State → Prop} {BX : String → SX → State → Prop} {AX : Nat → Prop} (hr : vx_Run p l e R s m args below meth c H locs cells slots mc ms (F0 m pc ls st0) rest (va_Qi post B A1 a) (vx_X px BX AX) free) (hS : va_S A0 H0 H locs) (hA : ∀ q, q < H.size → A1 q → A0 q) (hf : ∀ q, free q → A0 q) (hAX : ∀ q, q < H.size → AX q → A0 q)
    (kx : ∀ (E : String) (ce : Cell) (q9 : Addr) (u : SX) (t : State) (H1 : Heap) (locs1 : List Loc), t.heap = H1 → s.vm.Alike t.vm → px u → BX E u t → H.size ≤ H1.size → (∀ q : Nat, q < H.size → ¬ AX q → H1[q]? = H[q]?) → va_S A0 H0 H1 locs1 → H1[q9]? = some ce → ce.vm = .none → s.vm.findClass E = some ce.cls → vx_W p l e R s m args below meth c H1 locs1 (cells + mc) (slots + ms) Q (F0 m pc ls rest) q9)
    (kk : ∀ (r : Int32) (u : S) (t : State) (H1 : Heap) (locs1 : List Loc), t.heap = H1 → s.vm.Alike t.vm → post r u → B u t → H.size ≤ H1.size → (∀ q : Nat, q < H.size → ¬ A1 q → H1[q]? = H[q]?) → va_S A0 H0 H1 locs1 → W p l e R s m args below meth c H1 locs1 (cells + mc) (slots + ms) Q (F0 m (pc + 3) ls (.int r :: rest))) : W p l e R s m args below meth c H locs cells slots Q (F0 m pc ls st0) := by
  intro T hT X
  rcases hr T hT X with ⟨v, st₀, t, T', L, h0, X', hL, e1, e2, ⟨⟨r, u, hv, hp, hb⟩, hF⟩, st⟩ | ⟨q, st₀, t, T', L, E, ce, h0, X', hL, e1, e2, ⟨u, hp, hb, hF⟩, hce, hcv, hcl, st⟩
  · cases hv
    obtain ⟨k1, k2, k3⟩ := vx_keep h0 e1 hS hA hf hL hF
    obtain ⟨t2, a1, b1⟩ := kk r u t T'.heap (locs ++ L) e1.symm (by rw [← e2]; exact X'.warmed.alike) hp hb k1 k2 k3 T' rfl X'
    exact ⟨t2, st t2 a1, b1⟩
  · obtain ⟨k1, k2, k3⟩ := vx_keep h0 e1 hS hAX hf hL hF
    obtain ⟨t2, a1, b1⟩ := kx E ce q u t T'.heap (locs ++ L) e1.symm (by rw [← e2]; exact X'.warmed.alike) hp hb k1 k2 k3 (by rw [e1]; exact hce) hcv hcl T' rfl X'
    exact ⟨t2, st.trans a1, b1⟩
theorem vx_calll {S SX : Type} {post : Int64 → S → Prop} {px : SX → Prop} {B : S → State → Prop} {BX : String → SX → State → Prop} {AX : Nat → Prop} (hr : vx_Run p l e R s m args below meth c H locs cells slots mc ms (F0 m pc ls st0) rest (va_Ql post B A1 a) (vx_X px BX AX) free) (hS : va_S A0 H0 H locs) (hA : ∀ q, q < H.size → A1 q → A0 q) (hf : ∀ q, free q → A0 q) (hAX : ∀ q, q < H.size → AX q → A0 q)
    (kx : ∀ (E : String) (ce : Cell) (q9 : Addr) (u : SX) (t : State) (H1 : Heap) (locs1 : List Loc), t.heap = H1 → s.vm.Alike t.vm → px u → BX E u t → H.size ≤ H1.size → (∀ q : Nat, q < H.size → ¬ AX q → H1[q]? = H[q]?) → va_S A0 H0 H1 locs1 → H1[q9]? = some ce → ce.vm = .none → s.vm.findClass E = some ce.cls → vx_W p l e R s m args below meth c H1 locs1 (cells + mc) (slots + ms) Q (F0 m pc ls rest) q9)
    (kk : ∀ (r : Int64) (u : S) (t : State) (H1 : Heap) (locs1 : List Loc), t.heap = H1 → s.vm.Alike t.vm → post r u → B u t → H.size ≤ H1.size → (∀ q : Nat, q < H.size → ¬ A1 q → H1[q]? = H[q]?) → va_S A0 H0 H1 locs1 → W p l e R s m args below meth c H1 locs1 (cells + mc) (slots + ms) Q (F0 m (pc + 3) ls (.long r :: rest))) : W p l e R s m args below meth c H locs cells slots Q (F0 m pc ls st0) := by
  intro T hT X
  rcases hr T hT X with ⟨v, st₀, t, T', L, h0, X', hL, e1, e2, ⟨⟨r, u, hv, hp, hb⟩, hF⟩, st⟩ | ⟨q, st₀, t, T', L, E, ce, h0, X', hL, e1, e2, ⟨u, hp, hb, hF⟩, hce, hcv, hcl, st⟩
  · cases hv
    obtain ⟨k1, k2, k3⟩ := vx_keep h0 e1 hS hA hf hL hF
    obtain ⟨t2, a1, b1⟩ := kk r u t T'.heap (locs ++ L) e1.symm (by rw [← e2]; exact X'.warmed.alike) hp hb k1 k2 k3 T' rfl X'
    exact ⟨t2, st t2 a1, b1⟩
  · obtain ⟨k1, k2, k3⟩ := vx_keep h0 e1 hS hAX hf hL hF
    obtain ⟨t2, a1, b1⟩ := kx E ce q u t T'.heap (locs ++ L) e1.symm (by rw [← e2]; exact X'.warmed.alike) hp hb k1 k2 k3 (by rw [e1]; exact hce) hcv hcl T' rfl X'
    exact ⟨t2, st.trans a1, b1⟩
theorem vx_callf {S SX : Type} {post : UInt32 → S → Prop} {px : SX → Prop} {B : S → State → Prop} {BX : String → SX → State → Prop} {AX : Nat → Prop} (hr : vx_Run p l e R s m args below meth c H locs cells slots mc ms (F0 m pc ls st0) rest (va_Qf post B A1 a) (vx_X px BX AX) free) (hS : va_S A0 H0 H locs) (hA : ∀ q, q < H.size → A1 q → A0 q) (hf : ∀ q, free q → A0 q) (hAX : ∀ q, q < H.size → AX q → A0 q)
    (kx : ∀ (E : String) (ce : Cell) (q9 : Addr) (u : SX) (t : State) (H1 : Heap) (locs1 : List Loc), t.heap = H1 → s.vm.Alike t.vm → px u → BX E u t → H.size ≤ H1.size → (∀ q : Nat, q < H.size → ¬ AX q → H1[q]? = H[q]?) → va_S A0 H0 H1 locs1 → H1[q9]? = some ce → ce.vm = .none → s.vm.findClass E = some ce.cls → vx_W p l e R s m args below meth c H1 locs1 (cells + mc) (slots + ms) Q (F0 m pc ls rest) q9)
    (kk : ∀ (r : UInt32) (u : S) (t : State) (H1 : Heap) (locs1 : List Loc), t.heap = H1 → s.vm.Alike t.vm → post r u → B u t → H.size ≤ H1.size → (∀ q : Nat, q < H.size → ¬ A1 q → H1[q]? = H[q]?) → va_S A0 H0 H1 locs1 → W p l e R s m args below meth c H1 locs1 (cells + mc) (slots + ms) Q (F0 m (pc + 3) ls (.float r :: rest))) : W p l e R s m args below meth c H locs cells slots Q (F0 m pc ls st0) := by
  intro T hT X
  rcases hr T hT X with ⟨v, st₀, t, T', L, h0, X', hL, e1, e2, ⟨⟨r, u, hv, hp, hb⟩, hF⟩, st⟩ | ⟨q, st₀, t, T', L, E, ce, h0, X', hL, e1, e2, ⟨u, hp, hb, hF⟩, hce, hcv, hcl, st⟩
  · cases hv
    obtain ⟨k1, k2, k3⟩ := vx_keep h0 e1 hS hA hf hL hF
    obtain ⟨t2, a1, b1⟩ := kk r u t T'.heap (locs ++ L) e1.symm (by rw [← e2]; exact X'.warmed.alike) hp hb k1 k2 k3 T' rfl X'
    exact ⟨t2, st t2 a1, b1⟩
  · obtain ⟨k1, k2, k3⟩ := vx_keep h0 e1 hS hAX hf hL hF
    obtain ⟨t2, a1, b1⟩ := kx E ce q u t T'.heap (locs ++ L) e1.symm (by rw [← e2]; exact X'.warmed.alike) hp hb k1 k2 k3 (by rw [e1]; exact hce) hcv hcl T' rfl X'
    exact ⟨t2, st.trans a1, b1⟩
theorem vx_calld {S SX : Type} {post : UInt64 → S → Prop} {px : SX → Prop} {B : S → State → Prop} {BX : String → SX → State → Prop} {AX : Nat → Prop} (hr : vx_Run p l e R s m args below meth c H locs cells slots mc ms (F0 m pc ls st0) rest (va_Qd post B A1 a) (vx_X px BX AX) free) (hS : va_S A0 H0 H locs) (hA : ∀ q, q < H.size → A1 q → A0 q) (hf : ∀ q, free q → A0 q) (hAX : ∀ q, q < H.size → AX q → A0 q)
    (kx : ∀ (E : String) (ce : Cell) (q9 : Addr) (u : SX) (t : State) (H1 : Heap) (locs1 : List Loc), t.heap = H1 → s.vm.Alike t.vm → px u → BX E u t → H.size ≤ H1.size → (∀ q : Nat, q < H.size → ¬ AX q → H1[q]? = H[q]?) → va_S A0 H0 H1 locs1 → H1[q9]? = some ce → ce.vm = .none → s.vm.findClass E = some ce.cls → vx_W p l e R s m args below meth c H1 locs1 (cells + mc) (slots + ms) Q (F0 m pc ls rest) q9)
    (kk : ∀ (r : UInt64) (u : S) (t : State) (H1 : Heap) (locs1 : List Loc), t.heap = H1 → s.vm.Alike t.vm → post r u → B u t → H.size ≤ H1.size → (∀ q : Nat, q < H.size → ¬ A1 q → H1[q]? = H[q]?) → va_S A0 H0 H1 locs1 → W p l e R s m args below meth c H1 locs1 (cells + mc) (slots + ms) Q (F0 m (pc + 3) ls (.double r :: rest))) : W p l e R s m args below meth c H locs cells slots Q (F0 m pc ls st0) := by
  intro T hT X
  rcases hr T hT X with ⟨v, st₀, t, T', L, h0, X', hL, e1, e2, ⟨⟨r, u, hv, hp, hb⟩, hF⟩, st⟩ | ⟨q, st₀, t, T', L, E, ce, h0, X', hL, e1, e2, ⟨u, hp, hb, hF⟩, hce, hcv, hcl, st⟩
  · cases hv
    obtain ⟨k1, k2, k3⟩ := vx_keep h0 e1 hS hA hf hL hF
    obtain ⟨t2, a1, b1⟩ := kk r u t T'.heap (locs ++ L) e1.symm (by rw [← e2]; exact X'.warmed.alike) hp hb k1 k2 k3 T' rfl X'
    exact ⟨t2, st t2 a1, b1⟩
  · obtain ⟨k1, k2, k3⟩ := vx_keep h0 e1 hS hAX hf hL hF
    obtain ⟨t2, a1, b1⟩ := kx E ce q u t T'.heap (locs ++ L) e1.symm (by rw [← e2]; exact X'.warmed.alike) hp hb k1 k2 k3 (by rw [e1]; exact hce) hcv hcl T' rfl X'
    exact ⟨t2, st.trans a1, b1⟩
theorem vx_callv {S SX : Type} {post : S → Prop} {px : SX → Prop} {B : S → State → Prop} {BX : String → SX → State → Prop} {AX : Nat → Prop} (hr : vx_Run p l e R s m args below meth c H locs cells slots mc ms (F0 m pc ls st0) rest (va_Qv post B A1 a) (vx_X px BX AX) free) (hS : va_S A0 H0 H locs) (hA : ∀ q, q < H.size → A1 q → A0 q) (hf : ∀ q, free q → A0 q) (hAX : ∀ q, q < H.size → AX q → A0 q)
    (kx : ∀ (E : String) (ce : Cell) (q9 : Addr) (u : SX) (t : State) (H1 : Heap) (locs1 : List Loc), t.heap = H1 → s.vm.Alike t.vm → px u → BX E u t → H.size ≤ H1.size → (∀ q : Nat, q < H.size → ¬ AX q → H1[q]? = H[q]?) → va_S A0 H0 H1 locs1 → H1[q9]? = some ce → ce.vm = .none → s.vm.findClass E = some ce.cls → vx_W p l e R s m args below meth c H1 locs1 (cells + mc) (slots + ms) Q (F0 m pc ls rest) q9)
    (kk : ∀ (u : S) (t : State) (H1 : Heap) (locs1 : List Loc), t.heap = H1 → s.vm.Alike t.vm → post u → B u t → H.size ≤ H1.size → (∀ q : Nat, q < H.size → ¬ A1 q → H1[q]? = H[q]?) → va_S A0 H0 H1 locs1 → W p l e R s m args below meth c H1 locs1 (cells + mc) (slots + ms) Q (F0 m (pc + 3) ls (rest))) : W p l e R s m args below meth c H locs cells slots Q (F0 m pc ls st0) := by
  intro T hT X
  rcases hr T hT X with ⟨v, st₀, t, T', L, h0, X', hL, e1, e2, ⟨⟨u, hv, hp, hb⟩, hF⟩, st⟩ | ⟨q, st₀, t, T', L, E, ce, h0, X', hL, e1, e2, ⟨u, hp, hb, hF⟩, hce, hcv, hcl, st⟩
  · cases hv
    obtain ⟨k1, k2, k3⟩ := vx_keep h0 e1 hS hA hf hL hF
    obtain ⟨t2, a1, b1⟩ := kk u t T'.heap (locs ++ L) e1.symm (by rw [← e2]; exact X'.warmed.alike) hp hb k1 k2 k3 T' rfl X'
    exact ⟨t2, st t2 a1, b1⟩
  · obtain ⟨k1, k2, k3⟩ := vx_keep h0 e1 hS hAX hf hL hF
    obtain ⟨t2, a1, b1⟩ := kx E ce q u t T'.heap (locs ++ L) e1.symm (by rw [← e2]; exact X'.warmed.alike) hp hb k1 k2 k3 (by rw [e1]; exact hce) hcv hcl T' rfl X'
    exact ⟨t2, st.trans a1, b1⟩
/-- caught by the row x of this method's table; the rows ahead don't take it -/
theorem vx_catch {own name : String} {E : String} {ce : Cell} {q : Addr} (hown : s.vm.findClass own = some m.cls) (pre : List ExceptionTableEntry) (x : ExceptionTableEntry) (suf : List ExceptionTableEntry) (hsplit : c.exceptionTable.toList = pre ++ x :: suf)
    (hpass : ∀ z ∈ pre, covers z pc = false ∨ (z.catchType ≠ 0 ∧ ∃ nm : String, (Cond.classLink own z.catchType nm).before args s = true ∧ va_Nc E nm s)) (hx : covers x pc = true) (h0 : x.catchType ≠ 0)
    (hlink : (Cond.classLink own x.catchType name).before args s = true) (hcast : (Cond.castable E name).before args s = true) (hcell : H[q]? = some ce) (hv : ce.vm = .none) (hcl : s.vm.findClass E = some ce.cls)
    (kk : W p l e R s m args below meth c H locs cells slots Q (F0 m x.handlerPc ls [.ref q])) : vx_W p l e R s m args below meth c H locs cells slots Q (F0 m pc ls rest) q := by
  intro T hT X
  have hpl : e.platform.magicAccessors = ({} : Platform).magicAccessors := by rw [X.admits.platform]
  obtain ⟨c3, c4, hc3, hc4, hasg⟩ := Cond.castable_spec hcast
  cases Option.some.inj (hc3.symm.trans hcl)
  obtain ⟨c5, hc5, hcl5⟩ := Cond.classLink_spec hown hlink e.platform hpl
  cases Option.some.inj (hc4.symm.trans hc5)
  obtain ⟨vm', X', st⟩ := X.thenCaughtThrough q (g := F0 m pc ls rest) rfl (Steps.refl _) (by rw [hT]; exact hcell) (by rw [hv]; rfl) (by obtain ⟨k9, h9, -⟩ := Vm.findClass_spec hcl; exact ⟨k9, h9⟩) pre x suf hsplit
    (fun z hz => by
      rcases hpass z hz with h | ⟨hz0, nm, hl1, hn1⟩
      · exact Or.inl h
      · obtain ⟨c6, hc6, hcl6⟩ := Cond.classLink_spec hown hl1 e.platform hpl
        obtain ⟨a8, b8, h1, h2, h3⟩ := hn1
        cases Option.some.inj (h1.symm.trans hcl)
        cases Option.some.inj (h2.symm.trans hc6)
        exact Or.inr ⟨hz0, _, hcl6, h3⟩) hx (Or.inr ⟨h0, c4, hcl5, hasg⟩)
  obtain ⟨t, a1, b1⟩ := kk (T.setVm vm') hT X'
  exact ⟨t, st.trans a1, b1⟩
end Rows
section Ends
variable {p : Program} {l : Launch} {e : Env} {R : Room} {s : State} {m : MethodId} {args : Array Value} {below : List Frame} {meth : Method} {c : Code} {H : Heap} {locs : List Loc} {cells slots : Nat} {Q : State → Prop}
variable {mc ms : Nat} {free : Addr → Prop} {A0 A1 : Nat → Prop} {H0 : Heap} {a : Array Value} {ls : Array Slot} {st0 rest : List Value}
variable {Qc : Array Value → State → Outcome → State → Prop} {XC : String → State → State → Prop}
/-- what a body that may throw owes at its end -/
def vx_MQ (below : List Frame) (Qc : Array Value → State → Outcome → State → Prop) (XC : String → State → State → Prop) (a : Array Value) (s : State) (mc ms : Nat) (free : Addr → Prop) : State → Prop := fun t =>
  ∃ o, t.status = .running ∧ Ended t below o ∧ vx_Q Qc XC mc ms free a s o t
theorem vx_ret {g : JFrame} {mc ms : Nat} (k : W p l e R s m args below meth c H locs cells slots (MQ below Qc args s mc ms free) g) : W p l e R s m args below meth c H locs cells slots (vx_MQ below Qc XC args s mc ms free) g := by
  intro T hT X
  obtain ⟨t, a1, o, b1, b2, b3, b4⟩ := k T hT X
  exact ⟨t, a1, o, b1, b2, Or.inl ⟨b3, b4⟩⟩
/-- not caught here: it goes on to the caller -/
theorem vx_widen {g : JFrame} {q : Addr} {k n : Nat} (h1 : cells ≤ k) (h2 : slots ≤ n) (kk : vx_W p l e R s m args below meth c H locs k n Q g q) : vx_W p l e R s m args below meth c H locs cells slots Q g q := fun T hT X => kk T hT (stand_widen X h1 h2)
theorem vx_out {pc : Nat} {E : String} {ce : Cell} {q : Addr} {mc ms : Nat} (hout : ∀ x ∈ c.exceptionTable.toList, covers x pc = false) (hlocks : meth.locks = false) (hcell : H[q]? = some ce) (hv : ce.vm = .none) (hcl : s.vm.findClass E = some ce.cls)
    (hx : ∀ t : State, t.heap = H → s.vm.Alike t.vm → XC E s t) (hf : ∀ z ∈ locs, free z.base) (hc : cells ≤ mc) (hs : slots ≤ ms) :
    vx_W p l e R s m args below meth c H locs cells slots (vx_MQ below Qc XC args s mc ms free) (F0 m pc ls rest) q := by
  intro T hT X
  obtain ⟨st1, hrun, hend, hW, hsm⟩ := X.leaveThrown q (g := F0 m pc ls rest) rfl rfl rfl hout hlocks
  have hcell9 : (T.setFrames (.throwing q :: below)).heap[q]? = some ce := by
    show T.heap[q]? = some ce
    rw [hT]; exact hcell
  exact ⟨_, st1, .threw q, hrun, hend, Or.inr ⟨q, rfl, E, ce, locs, hx _ hT hW.alike, hcell9, hv, hcl, hW, hsm.mono hc hs, hf⟩⟩
theorem vx_frame {U : State} {k n : Nat} (h : s.sameButNew ({ U with vm := s.vm } : State) locs k n) : s.heap.size ≤ U.heap.size ∧ ∀ q : Nat, q < s.heap.size → (∀ z ∈ locs, z.base ≠ q) → U.heap[q]? = s.heap[q]? := by
  obtain ⟨-, h2, -, -, -, h6⟩ := h
  refine ⟨h2, fun q hq hz => ?_⟩
  obtain ⟨c9, e1, e2, e3, e4⟩ := h6 q _ (Array.getElem?_eq_getElem hq)
  have hs : c9.slots = (s.heap[q]).slots := Array.ext_getElem? fun i => e4 i fun hm => hz _ hm rfl
  have h9 : c9 = s.heap[q] := by
    rw [hs] at e2
    exact e2
  have e5 : U.heap[q]? = some c9 := e1
  rw [e5, h9, Array.getElem?_eq_getElem hq]
/-- the words of a throw but the four that speak of the heap -/
def vx_no (w : Cond) : Bool := decide (w ≠ .isRef (.static Bundle.tN "UNASSIGNED_STACK" Bundle.steD)) && decide (w ≠ .isRef (.static Bundle.tN "SUPPRESSED_SENTINEL" Bundle.listD)) && decide (w ≠ .laysStatic Bundle.tN "UNASSIGNED_STACK" Bundle.steD) && decide (w ≠ .laysStatic Bundle.tN "SUPPRESSED_SENTINEL" Bundle.listD)
def vx_at0 (own : String) (ic : Nat) (X : String) (names : List String) : List Cond := (Bundle.ownAtoms0 own ic X names).filter vx_no
def vx_atS (own : String) (ic : Nat) (X : String) (names : List String) : List Cond := (Bundle.ownAtoms own ic X names).filter vx_no
/-- a word that the tables alone decide, or a good one -/
def vx_ot (w : Cond) : Bool := w.onTables || goodWord w
theorem vx_ot_at {args a' : Array Value} {s U : State} {w : Cond} (hW : s.WarmedH U.vm) (hvm : s.vm = U.vm) (hg : vx_ot w = true) (h : w.before args s = true) : w.before a' U = true := by
  simp only [vx_ot, Bool.or_eq_true] at hg
  rcases hg with hg | hg
  · exact va_tabs hg hvm h
  · exact word_at hW (good_of_word hg) h
/-- a list's words: the good ones out of the method's own list, the others by premises of their own -/
theorem vx_hat {args : Array Value} {s : State} {L B : List Cond} (h1 : ∀ w ∈ L.filter goodWord, w.before args s = true) (h2 : ∀ w ∈ L.filter (fun w => !goodWord w), w ∈ B) (h3 : ∀ w ∈ B, w.before args s = true) : ∀ w ∈ L, w.before args s = true := by
  intro w hw
  by_cases g : goodWord w = true
  · exact h1 w (List.mem_filter.mpr ⟨hw, g⟩)
  · refine h3 w (h2 w (List.mem_filter.mpr ⟨hw, ?_⟩))
    show (!goodWord w) = true
    cases hgw : goodWord w
    · rfl
    · exact absurd hgw g
theorem vx_c {args : Array Value} {s : State} {w : Cond} {B : List Cond} (h : w.before args s = true) (t : ∀ w ∈ B, w.before args s = true) : ∀ w' ∈ w :: B, w'.before args s = true := fun w' h' => (List.mem_cons.mp h').elim (fun e => by rw [e]; exact h) (t w')
theorem vx_n {args : Array Value} {s : State} : ∀ w ∈ ([] : List Cond), w.before args s = true := fun _ h => nomatch h
theorem vx_own {args : Array Value} {s : State} {L : List Cond} (h1 : ∀ w ∈ L.filter vx_no, w.before args s = true)
    (hU : (Cond.isRef (.static Bundle.tN "UNASSIGNED_STACK" Bundle.steD)).before args s = true) (hN : (Cond.isRef (.static Bundle.tN "SUPPRESSED_SENTINEL" Bundle.listD)).before args s = true)
    (lU : (Cond.laysStatic Bundle.tN "UNASSIGNED_STACK" Bundle.steD).before args s = true) (lN : (Cond.laysStatic Bundle.tN "SUPPRESSED_SENTINEL" Bundle.listD).before args s = true) : ∀ w ∈ L, w.before args s = true := by
  intro w hw
  by_cases e1 : w = .isRef (.static Bundle.tN "UNASSIGNED_STACK" Bundle.steD)
  · rw [e1]; exact hU
  · by_cases e2 : w = .isRef (.static Bundle.tN "SUPPRESSED_SENTINEL" Bundle.listD)
    · rw [e2]; exact hN
    · by_cases e3 : w = .laysStatic Bundle.tN "UNASSIGNED_STACK" Bundle.steD
      · rw [e3]; exact lU
      · by_cases e4 : w = .laysStatic Bundle.tN "SUPPRESSED_SENTINEL" Bundle.listD
        · rw [e4]; exact lN
        · exact h1 w (List.mem_filter.mpr ⟨hw, by unfold vx_no; rw [decide_eq_true e1, decide_eq_true e2, decide_eq_true e3, decide_eq_true e4]; rfl⟩)
/-- where a static field lies, its class's statics cell in H -/
def vx_L (C n d : String) (A : Nat → Prop) (U : State) (H : Heap) : Prop := ∃ (c : ClassId) (k : Class) (i : Nat) (f : Field) (a : Nat) (cell : Cell), U.vm.findClass C = some c ∧ U.fieldFound? C n d = some (c, k, i, f) ∧ f.isStatic = true ∧ k.statics = some a ∧ H[a]? = some cell ∧ cell.vm.isStatics = true ∧ cell.cls = c ∧ f.slot < cell.slots.size ∧ k.staticTypes[f.slot]? = some f.type ∧ ¬ A a
theorem vx_L.moved {C n d : String} {A : Nat → Prop} {u U : State} {H : Heap} (hvm : u.vm.Alike U.vm) (h : vx_L C n d A u H) : vx_L C n d A U H := by
  obtain ⟨c, k, i, f, a, cell, h1, h2, h3, h4, h5, h6, h7, h8, h9, h10⟩ := h
  obtain ⟨k', hi', he⟩ := State.fieldFound?_setVm hvm h2
  exact ⟨c, k', i, f, a, cell, by rw [hvm.findClass]; exact h1, hi', h3, by rw [he]; exact h4, h5, h6, h7, h8, by rw [he]; exact h9, h10⟩
theorem vx_L.kept {C n d : String} {A : Nat → Prop} {U : State} {H H1 : Heap} (h : vx_L C n d A U H) (hq : ∀ a : Nat, a < H.size → ¬ A a → H1[a]? = H[a]?) : vx_L C n d A U H1 := by
  obtain ⟨c, k, i, f, a, cell, h1, h2, h3, h4, h5, h6, h7, h8, h9, h10⟩ := h
  exact ⟨c, k, i, f, a, cell, h1, h2, h3, h4, by rw [hq a (Array.getElem?_eq_some_iff.mp h5).1 h10]; exact h5, h6, h7, h8, h9, h10⟩
theorem vx_L.narrow {C n d : String} {A B : Nat → Prop} {U : State} {H : Heap} (h : vx_L C n d A U H) (hAB : ∀ q, B q → A q) : vx_L C n d B U H := by
  obtain ⟨c, k, i, f, a, cell, h1, h2, h3, h4, h5, h6, h7, h8, h9, h10⟩ := h
  exact ⟨c, k, i, f, a, cell, h1, h2, h3, h4, h5, h6, h7, h8, h9, fun z => h10 (hAB _ z)⟩
theorem vx_L.word {C n d : String} {A : Nat → Prop} {s : State} {args : Array Value} (h : vx_L C n d A s s.heap) : (Cond.laysStatic C n d).before args s = true := by
  obtain ⟨c, k, i, f, a, cell, h1, h2, h3, h4, h5, h6, h7, h8, h9, -⟩ := h
  show (Cond.laysStatic C n d).holds args s none s [] = true
  exact Cond.laysStatic_of h1 h2 h3 h4 h5 h6 h7 h8 h9
/-- .. and what it holds: null or some reference -/
def vx_Zq (C n d : String) (A : Nat → Prop) (U : State) (H : Heap) : Prop := va_Zq C n d A U H ∧ vx_L C n d A U H
theorem vx_Zq.moved {C n d : String} {A : Nat → Prop} {u U : State} {H : Heap} (hvm : u.vm.Alike U.vm) (h : vx_Zq C n d A u H) : vx_Zq C n d A U H := ⟨va_Zq.moved hvm h.1, vx_L.moved hvm h.2⟩
theorem vx_Zq.kept {C n d : String} {A : Nat → Prop} {U : State} {H H1 : Heap} (h : vx_Zq C n d A U H) (hq : ∀ a : Nat, a < H.size → ¬ A a → H1[a]? = H[a]?) : vx_Zq C n d A U H1 := ⟨va_Zq.kept h.1 hq, vx_L.kept h.2 hq⟩
theorem vx_Zq.narrow {C n d : String} {A B : Nat → Prop} {U : State} {H : Heap} (h : vx_Zq C n d A U H) (hAB : ∀ q, B q → A q) : vx_Zq C n d B U H := ⟨va_Zq.narrow h.1 hAB, vx_L.narrow h.2 hAB⟩
theorem vx_Zqof {args : Array Value} {s : State} {C n d : String} {A : Nat → Prop} (hl : (Cond.laysStatic C n d).before args s = true) (hini : (Cond.initialized C).before args s = true) (h : (Cond.isRef (.static C n d)).before args s = true) (hA : ∀ a : Nat, a < s.heap.size → ¬ A a) : vx_Zq C n d A s s.heap := by
  refine ⟨va_Zqof hl hini h hA, ?_⟩
  obtain ⟨c, k, i, f, a, cell, h1, h2, h3, h4, h5, h6, h7, h8, h9⟩ := Cond.laysStatic_spec hl
  exact ⟨c, k, i, f, a, cell, h1, h2, h3, h4, h5, h6, h7, h8, h9, hA a (Array.getElem?_eq_some_iff.mp h5).1⟩
theorem vx_isRef {C n d : String} {v : Value} {A : Nat → Prop} {s : State} {args : Array Value} (h : va_Z C n d v A s s.heap) (hv : v.isRef = true) : (Cond.isRef (.static C n d)).before args s = true := by
  obtain ⟨cf, kf, fi, f, a, cell, h1, h2, h3, h4, h5, h6, h7, -⟩ := h
  have he : (Term.static C n d).eval args s none [] s = some v := by
    simp [Term.eval, State.fieldNamed?, h1, h2, h4, h5, h6, h7]
  simp only [Cond.before, Cond.holds, Cond.value, he]
  cases v <;> simp_all [Value.isRef]
theorem vx_isRefq {C n d : String} {A : Nat → Prop} {s : State} {args : Array Value} (h : va_Zq C n d A s s.heap) : (Cond.isRef (.static C n d)).before args s = true := by
  rcases h with h | ⟨t, h⟩
  · exact vx_isRef h rfl
  · exact vx_isRef h rfl
/-- the same frame, seen from here: as if the method were called anew in this heap -/
theorem vx_rebase {T : State} (X : Stand p l e R s m args below meth c T locs cells slots) {R' : Room} (hf : R'.frames ≤ R.frames) (hl : R'.locals ≤ R.locals) (hc : cells + R'.cells ≤ R.cells) (hs : slots + R'.slots ≤ R.slots) :
    Stand p l e R' ((T.setVm s.vm).setFrames (.invoking m args :: below)) m args below meth c T [] 0 0 := by
  have htop : (T.setVm s.vm).topJava?.isSome := X.here.top
  have hF : ((T.setVm s.vm).setFrames (.invoking m args :: below)).frames = .invoking m args :: below := State.frames_setFrames _ (State.cur_lt_of_top htop)
  obtain ⟨g₀, hg0⟩ := Option.isSome_iff_exists.mp htop
  obtain ⟨r, hr⟩ := State.topJava?_eq_some.mp hg0
  have hl9 : e.platform.stackLimits (T.setVm s.vm).me = e.platform.stackLimits s.me := X.limits
  have hb9 : (T.setVm s.vm).me.stackBytes = s.me.stackBytes := X.bytes
  refine ⟨X.admits, X.cas, X.clock, hF, ?_, X.hears, X.method, X.code, X.here, X.tail, X.warmed, ?_, ?_, ?_⟩
  · have h := X.room
    have hU : ((T.setVm s.vm).setFrames (.invoking m args :: below)).localsInUse = s.localsInUse := by
      rw [State.localsInUse_invoking hF (meth := meth) (c := c) X.method X.code, State.localsInUse_invoking X.frames X.method X.code]
    simp only [State.hasRoom, Bool.and_eq_true, decide_eq_true_eq] at h ⊢
    obtain ⟨⟨⟨⟨h1, h2, h3, h4, h5, h6⟩, h7⟩, h8⟩, h9⟩ := h
    rw [X.frames, List.length_cons] at h2 h3
    have q1 := X.heapSize
    have q2 := X.used
    simp only [hF, hU, List.length_cons, State.stackLimits_setFrames, State.stackBytes_setFrames, hl9, hb9]
    refine ⟨⟨⟨⟨by omega, by omega, by omega, by omega, by omega, h6⟩, ?_⟩, ?_⟩, X.book⟩
    · show T.heap.size + R'.cells ≤ e.platform.maxCells
      omega
    · show T.slotsUsed + R'.slots ≤ e.platform.maxSlots
      omega
  · rw [State.stackLimits_setFrames]; rfl
  · rw [State.stackBytes_setFrames]; rfl
  · refine ⟨?_, Nat.le_refl _, Nat.le_refl _, ?_, ?_, fun a c9 h9 => ⟨c9, h9, rfl, rfl, fun _ _ => rfl⟩⟩
    · obtain ⟨t, ht, -⟩ := State.frames_cons hr
      show T.setVm s.vm = { ((T.setVm s.vm).setFrames (.invoking m args :: below)).setFrames (T.setVm s.vm).frames with heap := T.heap, slotsUsed := T.slotsUsed }
      rw [State.setFrames_setFrames, State.setFrames_self ht]
      rfl
    · show T.slotsUsed = T.slotsUsed + ((T.heap.toList.drop T.heap.size).map (·.slots.size)).sum
      rw [List.drop_eq_nil_of_le (Nat.le_of_eq Array.length_toList)]
      rfl
    · show ((T.heap.toList.drop T.heap.size).map (·.slots.size)).sum ≤ 0
      rw [List.drop_eq_nil_of_le (Nat.le_of_eq Array.length_toList)]
      exact Nat.le_refl _
/-- 'throw new E()': new; dup; invokespecial; athrow -/
theorem vx_throw0 {cc : ByteArray} {pc : Nat} (hexec : p.tables.exec = Jvm.exec) (hb : c.code = cc) (hl : l.stackTraces = false) {own cls : String} {names : List String} {ik ic mc ms : Nat} {A : Nat → Prop}
    (hown : s.vm.findClass own = some m.cls) (hcls : Bundle.fit cls = true) (hnames : ∀ n ∈ names, Bundle.fit n = true)
    (hk : (Cond.classLink own ik cls).before args s = true) (hini : (Cond.initialized cls).before args s = true) (hat : ∀ w ∈ vx_at0 own ic cls names, w.before args s = true)
    (hgood : ∀ w ∈ Cond.classLink own ik cls :: Cond.initialized cls :: vx_at0 own ic cls names, vx_ot w = true)
    (hU : vx_Zq Bundle.tN "UNASSIGNED_STACK" Bundle.steD A s s.heap) (hN : vx_Zq Bundle.tN "SUPPRESSED_SENTINEL" Bundle.listD A s s.heap) (hS : va_S A s.heap H locs) (hsize : ls.size = c.maxLocals)
    (d0 : decode cc pc = .ok (.new ik, 3)) (d3 : decode cc (pc + 3) = .ok (.dup, 1)) (d4 : decode cc (pc + 4) = .ok (.invokespecial ic, 3)) (d7 : decode cc (pc + 7) = .ok (.athrow, 1))
    (hout : ∀ x ∈ c.exceptionTable.toList, covers x (pc + 7) = false)
    (hRframes : names.length + 3 < R.frames) (hRlocals : (rest.map fun v => v.category).sum + (13 * (names.length + 1) + 42) ≤ R.locals) (hRcells : cells + 1 ≤ R.cells) (hRslots : slots + 6 ≤ R.slots) (hlocks : meth.locks = false)
    (hx : ∀ t : State, s.vm.Alike t.vm → H.size ≤ t.heap.size → (∀ q : Nat, q < H.size → t.heap[q]? = H[q]?) → XC cls s t)
    (hf : ∀ z ∈ locs, free z.base) (hc : cells + 1 ≤ mc) (hs : slots + 6 ≤ ms) :
    W p l e R s m args below meth c H locs cells slots (vx_MQ below Qc XC args s mc ms free) (F0 m pc ls rest) := by
  intro T hT X
  have htr : e.platform.stackTraces = false := (show e.platform.stackTraces = l.stackTraces by rw [X.admits.platform]).trans hl
  have Y := vx_rebase X (R' := { frames := R.frames, locals := R.locals, cells := 1, slots := 6 }) (Nat.le_refl _) (Nat.le_refl _) hRcells hRslots
  obtain ⟨s', hA⟩ : ∃ z, z = (T.setVm s.vm).setFrames (.invoking m args :: below) := ⟨_, rfl⟩
  rw [← hA] at Y
  have hvm : s'.vm = s.vm := by rw [hA]; rfl
  have hhp : s'.heap = H := by rw [hA]; exact hT
  have hW0 : s.WarmedH s'.vm := by rw [hvm]; exact State.WarmedH.refl s
  have hat' : ∀ w ∈ vx_at0 own ic cls names, w.before args s' = true := fun w hw => vx_ot_at hW0 hvm.symm (hgood w (List.mem_cons_of_mem _ (List.mem_cons_of_mem _ hw))) (hat w hw)
  have hk' : (Cond.classLink own ik cls).before args s' = true := vx_ot_at hW0 hvm.symm (hgood _ List.mem_cons_self) hk
  have hini' : (Cond.initialized cls).before args s' = true := vx_ot_at hW0 hvm.symm (hgood _ (List.mem_cons_of_mem _ List.mem_cons_self)) hini
  have hU' : vx_Zq Bundle.tN "UNASSIGNED_STACK" Bundle.steD A s' s'.heap := by rw [hhp]; exact vx_Zq.moved hW0.alike (hU.kept hS.2.1)
  have hN' : vx_Zq Bundle.tN "SUPPRESSED_SENTINEL" Bundle.listD A s' s'.heap := by rw [hhp]; exact vx_Zq.moved hW0.alike (hN.kept hS.2.1)
  have h : ∀ w ∈ Bundle.ownAtoms0 own ic cls names, w.before args s' = true := vx_own hat' (vx_isRefq hU'.1) (vx_isRefq hN'.1) hU'.2.word hN'.2.word
  have hown' : s'.vm.findClass own = some m.cls := by rw [hvm]; exact hown
  have hins : (Cond.instantiable cls 6).before args s' = true := h _ (by simp [Bundle.ownAtoms0])
  obtain ⟨vm₁, cX, kX, hfX, hkX, -, -, X₁, st1⟩ := Y.newCold hexec (own := own) (C := cls) (index := ik) (n := 6) hown' hk' hins hini'
    (g := F0 m pc ls rest) rfl (by rw [hb]; exact d0) (Nat.le_refl _) (Nat.le_refl _)
  generalize hT1 : (T.setVm vm₁).pushCell { cls := cX, slots := kX.instanceTypes.map defaultValue, vm := .none } = T1 at X₁ st1
  have hcat : (Value.ref T.heap.size).category = 1 := rfl
  have hcellA : T1.heap[T.heap.size]? = some (freshCell cX kX) := by rw [← hT1]; exact State.heap_pushCell_size _ _
  have d3' : decode c.code (pc + 3) = .ok (.dup, 1) := by rw [hb]; exact d3
  obtain ⟨U, hsteps, hrun, hend, hW, hsame, ce, hce, hO⟩ := X₁.ctorThrow0 hexec htr (own := own) (cls := cls) (names := names) (ic := ic) hown' hcls hnames h (fun x hx => nomatch hx) hfX hkX hcellA (by rw [hhp, hT]; exact Nat.le_refl _)
    (g := { method := m, pc := pc + 4, locals := ls, stack := .ref T.heap.size :: .ref T.heap.size :: rest, locked := none }) rfl hsize rfl rfl (rest := rest) rfl
    (by rw [hb]; exact d4) (by rw [hb]; exact d7) hout hRframes (by simp only [List.map_cons, List.sum_cons, hcat]; omega) hlocks
  obtain ⟨f1, f2⟩ := vx_frame hsame
  rw [hhp] at f1 f2
  have hWs : s.WarmedH U.vm := State.WarmedH.trans hW0 hW
  have hcl : s.vm.findClass cls = some ce.cls := by
    have h9 := hO.cls
    rw [hvm] at h9
    exact h9
  have hall : s.sameButNew ({ U with vm := s.vm } : State) locs mc ms := by
    subst hA
    obtain ⟨e1, e2⟩ := hsame
    rw [State.setFrames_setFrames] at e1
    have h2 : (T.setVm s.vm).sameButNew ({ U with vm := s.vm } : State) [] (0 + 1) (0 + 6) := ⟨e1, e2⟩
    have h3 := X.same.trans h2
    rw [List.append_nil] at h3
    exact h3.mono hc hs
  refine ⟨U, ?_, .threw T.heap.size, hrun, hend, Or.inr ⟨T.heap.size, rfl, cls, ce, locs, hx U hWs.alike f1 (fun q hq => f2 q hq (fun z hz => nomatch hz)), hce, hO.vm, hcl, hWs, hall, hf⟩⟩
  refine st1 _ ?_
  show Steps p.tables e below (T1.setTop { method := m, pc := pc + 3, locals := ls, stack := .ref T.heap.size :: rest, locked := none }) _
  jvm_step X₁.here [X₁.here.top, hexec, d3', Value.category]
  exact hsteps
/-- 'throw new E("text")': new; dup; ldc; invokespecial; athrow -/
theorem vx_throwS {cc : ByteArray} {pc : Nat} (hexec : p.tables.exec = Jvm.exec) (hb : c.code = cc) (hl : l.stackTraces = false) {own cls text : String} {names : List String} {ik is ic mc ms sa : Nat} {A : Nat → Prop}
    (hown : s.vm.findClass own = some m.cls) (hcls : Bundle.fit cls = true) (hnames : ∀ n ∈ names, Bundle.fit n = true)
    (hk : (Cond.classLink own ik cls).before args s = true) (hini : (Cond.initialized cls).before args s = true) (hstr : vk_R own is text sa s) (hat : ∀ w ∈ vx_atS own ic cls names, w.before args s = true)
    (hgood : ∀ w ∈ Cond.classLink own ik cls :: Cond.initialized cls :: vx_atS own ic cls names, vx_ot w = true)
    (hU : vx_Zq Bundle.tN "UNASSIGNED_STACK" Bundle.steD A s s.heap) (hN : vx_Zq Bundle.tN "SUPPRESSED_SENTINEL" Bundle.listD A s s.heap) (hS : va_S A s.heap H locs) (hsize : ls.size = c.maxLocals)
    (d0 : decode cc pc = .ok (.new ik, 3)) (d3 : decode cc (pc + 3) = .ok (.dup, 1)) (d4 : decode cc (pc + 4) = .ok (.ldc is, 2)) (d6 : decode cc (pc + 6) = .ok (.invokespecial ic, 3)) (d9 : decode cc (pc + 9) = .ok (.athrow, 1))
    (hout : ∀ x ∈ c.exceptionTable.toList, covers x (pc + 9) = false)
    (hRframes : names.length + 3 < R.frames) (hRlocals : (rest.map fun v => v.category).sum + (13 * (names.length + 1) + 43) ≤ R.locals) (hRcells : cells + 1 ≤ R.cells) (hRslots : slots + 6 ≤ R.slots) (hlocks : meth.locks = false)
    (hx : ∀ t : State, s.vm.Alike t.vm → H.size ≤ t.heap.size → (∀ q : Nat, q < H.size → t.heap[q]? = H[q]?) → XC cls s t)
    (hf : ∀ z ∈ locs, free z.base) (hc : cells + 1 ≤ mc) (hs : slots + 6 ≤ ms) :
    W p l e R s m args below meth c H locs cells slots (vx_MQ below Qc XC args s mc ms free) (F0 m pc ls rest) := by
  intro T hT X
  have htr : e.platform.stackTraces = false := (show e.platform.stackTraces = l.stackTraces by rw [X.admits.platform]).trans hl
  have Y := vx_rebase X (R' := { frames := R.frames, locals := R.locals, cells := 1, slots := 6 }) (Nat.le_refl _) (Nat.le_refl _) hRcells hRslots
  obtain ⟨s', hA⟩ : ∃ z, z = (T.setVm s.vm).setFrames (.invoking m args :: below) := ⟨_, rfl⟩
  rw [← hA] at Y
  have hvm : s'.vm = s.vm := by rw [hA]; rfl
  have hhp : s'.heap = H := by rw [hA]; exact hT
  have hW0 : s.WarmedH s'.vm := by rw [hvm]; exact State.WarmedH.refl s
  have hat' : ∀ w ∈ vx_atS own ic cls names, w.before args s' = true := fun w hw => vx_ot_at hW0 hvm.symm (hgood w (List.mem_cons_of_mem _ (List.mem_cons_of_mem _ hw))) (hat w hw)
  have hk' : (Cond.classLink own ik cls).before args s' = true := vx_ot_at hW0 hvm.symm (hgood _ List.mem_cons_self) hk
  have hini' : (Cond.initialized cls).before args s' = true := vx_ot_at hW0 hvm.symm (hgood _ (List.mem_cons_of_mem _ List.mem_cons_self)) hini
  have hU' : vx_Zq Bundle.tN "UNASSIGNED_STACK" Bundle.steD A s' s'.heap := by rw [hhp]; exact vx_Zq.moved hW0.alike (hU.kept hS.2.1)
  have hN' : vx_Zq Bundle.tN "SUPPRESSED_SENTINEL" Bundle.listD A s' s'.heap := by rw [hhp]; exact vx_Zq.moved hW0.alike (hN.kept hS.2.1)
  have h : ∀ w ∈ Bundle.ownAtoms own ic cls names, w.before args s' = true := vx_own hat' (vx_isRefq hU'.1) (vx_isRefq hN'.1) hU'.2.word hN'.2.word
  have hown' : s'.vm.findClass own = some m.cls := by rw [hvm]; exact hown
  have hins : (Cond.instantiable cls 6).before args s' = true := h _ (by simp [Bundle.ownAtoms])
  obtain ⟨vm₁, cX, kX, hfX, hkX, -, -, X₁, st1⟩ := Y.newCold hexec (own := own) (C := cls) (index := ik) (n := 6) hown' hk' hins hini'
    (g := F0 m pc ls rest) rfl (by rw [hb]; exact d0) (Nat.le_refl _) (Nat.le_refl _)
  generalize hT1 : (T.setVm vm₁).pushCell { cls := cX, slots := kX.instanceTypes.map defaultValue, vm := .none } = T1 at X₁ st1
  have hcat : (Value.ref T.heap.size).category = 1 := rfl
  have hcellA : T1.heap[T.heap.size]? = some (freshCell cX kX) := by rw [← hT1]; exact State.heap_pushCell_size _ _
  have d3' : decode c.code (pc + 3) = .ok (.dup, 1) := by rw [hb]; exact d3
  have d4' : decode c.code (pc + 4) = .ok (.ldc is, 2) := by rw [hb]; exact d4
  have hstr' : vk_R own is text sa s' := vk_R.warm hW0 hstr
  obtain ⟨U, hsteps, hrun, hend, hW, hsame, ce, hce, hO⟩ := X₁.ctorThrowS hexec htr (own := own) (cls := cls) (names := names) (ic := ic) hown' hcls hnames h (fun x hx => nomatch hx) hfX hkX hcellA (by rw [hhp, hT]; exact Nat.le_refl _) (msg := .ref sa) rfl
    (g := { method := m, pc := pc + 6, locals := ls, stack := .ref sa :: .ref T.heap.size :: .ref T.heap.size :: rest, locked := none }) rfl hsize rfl rfl (rest := rest) rfl
    (by rw [hb]; exact d6) (by rw [hb]; exact d9) hout hRframes (by simp only [List.map_cons, List.sum_cons, hcat]; omega) hlocks
  obtain ⟨f1, f2⟩ := vx_frame hsame
  rw [hhp] at f1 f2
  have hWs : s.WarmedH U.vm := State.WarmedH.trans hW0 hW
  have hcl : s.vm.findClass cls = some ce.cls := by
    have h9 := hO.cls
    rw [hvm] at h9
    exact h9
  have hall : s.sameButNew ({ U with vm := s.vm } : State) locs mc ms := by
    subst hA
    obtain ⟨e1, e2⟩ := hsame
    rw [State.setFrames_setFrames] at e1
    have h2 : (T.setVm s.vm).sameButNew ({ U with vm := s.vm } : State) [] (0 + 1) (0 + 6) := ⟨e1, e2⟩
    have h3 := X.same.trans h2
    rw [List.append_nil] at h3
    exact h3.mono hc hs
  refine ⟨U, ?_, .threw T.heap.size, hrun, hend, Or.inr ⟨T.heap.size, rfl, cls, ce, locs, hx U hWs.alike f1 (fun q hq => f2 q hq (fun z hz => nomatch hz)), hce, hO.vm, hcl, hWs, hall, hf⟩⟩
  refine st1 _ ?_
  show Steps p.tables e below (T1.setTop { method := m, pc := pc + 3, locals := ls, stack := .ref T.heap.size :: rest, locked := none }) _
  jvm_step X₁.here [X₁.here.top, hexec, d3', Value.category]
  exact X₁.ldcString hexec (own := own) (text := text) (index := is) (a := sa) hown' hstr'.1 hstr'.2
    (g := { method := m, pc := pc + 4, locals := ls, stack := .ref T.heap.size :: .ref T.heap.size :: rest, locked := none }) rfl d4' _ hsteps
/-- 'throw new E("text")', the text by a wide index -/
theorem vx_throwSW {cc : ByteArray} {pc : Nat} (hexec : p.tables.exec = Jvm.exec) (hb : c.code = cc) (hl : l.stackTraces = false) {own cls text : String} {names : List String} {ik is ic mc ms sa : Nat} {A : Nat → Prop}
    (hown : s.vm.findClass own = some m.cls) (hcls : Bundle.fit cls = true) (hnames : ∀ n ∈ names, Bundle.fit n = true)
    (hk : (Cond.classLink own ik cls).before args s = true) (hini : (Cond.initialized cls).before args s = true) (hstr : vk_R own is text sa s) (hat : ∀ w ∈ vx_atS own ic cls names, w.before args s = true)
    (hgood : ∀ w ∈ Cond.classLink own ik cls :: Cond.initialized cls :: vx_atS own ic cls names, vx_ot w = true)
    (hU : vx_Zq Bundle.tN "UNASSIGNED_STACK" Bundle.steD A s s.heap) (hN : vx_Zq Bundle.tN "SUPPRESSED_SENTINEL" Bundle.listD A s s.heap) (hS : va_S A s.heap H locs) (hsize : ls.size = c.maxLocals)
    (d0 : decode cc pc = .ok (.new ik, 3)) (d3 : decode cc (pc + 3) = .ok (.dup, 1)) (d4 : decode cc (pc + 4) = .ok (.ldc_w is, 3)) (d7 : decode cc (pc + 7) = .ok (.invokespecial ic, 3)) (d10 : decode cc (pc + 10) = .ok (.athrow, 1))
    (hout : ∀ x ∈ c.exceptionTable.toList, covers x (pc + 10) = false)
    (hRframes : names.length + 3 < R.frames) (hRlocals : (rest.map fun v => v.category).sum + (13 * (names.length + 1) + 43) ≤ R.locals) (hRcells : cells + 1 ≤ R.cells) (hRslots : slots + 6 ≤ R.slots) (hlocks : meth.locks = false)
    (hx : ∀ t : State, s.vm.Alike t.vm → H.size ≤ t.heap.size → (∀ q : Nat, q < H.size → t.heap[q]? = H[q]?) → XC cls s t)
    (hf : ∀ z ∈ locs, free z.base) (hc : cells + 1 ≤ mc) (hs : slots + 6 ≤ ms) :
    W p l e R s m args below meth c H locs cells slots (vx_MQ below Qc XC args s mc ms free) (F0 m pc ls rest) := by
  intro T hT X
  have htr : e.platform.stackTraces = false := (show e.platform.stackTraces = l.stackTraces by rw [X.admits.platform]).trans hl
  have Y := vx_rebase X (R' := { frames := R.frames, locals := R.locals, cells := 1, slots := 6 }) (Nat.le_refl _) (Nat.le_refl _) hRcells hRslots
  obtain ⟨s', hA⟩ : ∃ z, z = (T.setVm s.vm).setFrames (.invoking m args :: below) := ⟨_, rfl⟩
  rw [← hA] at Y
  have hvm : s'.vm = s.vm := by rw [hA]; rfl
  have hhp : s'.heap = H := by rw [hA]; exact hT
  have hW0 : s.WarmedH s'.vm := by rw [hvm]; exact State.WarmedH.refl s
  have hat' : ∀ w ∈ vx_atS own ic cls names, w.before args s' = true := fun w hw => vx_ot_at hW0 hvm.symm (hgood w (List.mem_cons_of_mem _ (List.mem_cons_of_mem _ hw))) (hat w hw)
  have hk' : (Cond.classLink own ik cls).before args s' = true := vx_ot_at hW0 hvm.symm (hgood _ List.mem_cons_self) hk
  have hini' : (Cond.initialized cls).before args s' = true := vx_ot_at hW0 hvm.symm (hgood _ (List.mem_cons_of_mem _ List.mem_cons_self)) hini
  have hU' : vx_Zq Bundle.tN "UNASSIGNED_STACK" Bundle.steD A s' s'.heap := by rw [hhp]; exact vx_Zq.moved hW0.alike (hU.kept hS.2.1)
  have hN' : vx_Zq Bundle.tN "SUPPRESSED_SENTINEL" Bundle.listD A s' s'.heap := by rw [hhp]; exact vx_Zq.moved hW0.alike (hN.kept hS.2.1)
  have h : ∀ w ∈ Bundle.ownAtoms own ic cls names, w.before args s' = true := vx_own hat' (vx_isRefq hU'.1) (vx_isRefq hN'.1) hU'.2.word hN'.2.word
  have hown' : s'.vm.findClass own = some m.cls := by rw [hvm]; exact hown
  have hins : (Cond.instantiable cls 6).before args s' = true := h _ (by simp [Bundle.ownAtoms])
  obtain ⟨vm₁, cX, kX, hfX, hkX, -, -, X₁, st1⟩ := Y.newCold hexec (own := own) (C := cls) (index := ik) (n := 6) hown' hk' hins hini'
    (g := F0 m pc ls rest) rfl (by rw [hb]; exact d0) (Nat.le_refl _) (Nat.le_refl _)
  generalize hT1 : (T.setVm vm₁).pushCell { cls := cX, slots := kX.instanceTypes.map defaultValue, vm := .none } = T1 at X₁ st1
  have hcat : (Value.ref T.heap.size).category = 1 := rfl
  have hcellA : T1.heap[T.heap.size]? = some (freshCell cX kX) := by rw [← hT1]; exact State.heap_pushCell_size _ _
  have d3' : decode c.code (pc + 3) = .ok (.dup, 1) := by rw [hb]; exact d3
  have d4' : decode c.code (pc + 4) = .ok (.ldc_w is, 3) := by rw [hb]; exact d4
  have hstr' : vk_R own is text sa s' := vk_R.warm hW0 hstr
  obtain ⟨U, hsteps, hrun, hend, hW, hsame, ce, hce, hO⟩ := X₁.ctorThrowS hexec htr (own := own) (cls := cls) (names := names) (ic := ic) hown' hcls hnames h (fun x hx => nomatch hx) hfX hkX hcellA (by rw [hhp, hT]; exact Nat.le_refl _) (msg := .ref sa) rfl
    (g := { method := m, pc := pc + 7, locals := ls, stack := .ref sa :: .ref T.heap.size :: .ref T.heap.size :: rest, locked := none }) rfl hsize rfl rfl (rest := rest) rfl
    (by rw [hb]; exact d7) (by rw [hb]; exact d10) hout hRframes (by simp only [List.map_cons, List.sum_cons, hcat]; omega) hlocks
  obtain ⟨f1, f2⟩ := vx_frame hsame
  rw [hhp] at f1 f2
  have hWs : s.WarmedH U.vm := State.WarmedH.trans hW0 hW
  have hcl : s.vm.findClass cls = some ce.cls := by
    have h9 := hO.cls
    rw [hvm] at h9
    exact h9
  have hall : s.sameButNew ({ U with vm := s.vm } : State) locs mc ms := by
    subst hA
    obtain ⟨e1, e2⟩ := hsame
    rw [State.setFrames_setFrames] at e1
    have h2 : (T.setVm s.vm).sameButNew ({ U with vm := s.vm } : State) [] (0 + 1) (0 + 6) := ⟨e1, e2⟩
    have h3 := X.same.trans h2
    rw [List.append_nil] at h3
    exact h3.mono hc hs
  refine ⟨U, ?_, .threw T.heap.size, hrun, hend, Or.inr ⟨T.heap.size, rfl, cls, ce, locs, hx U hWs.alike f1 (fun q hq => f2 q hq (fun z hz => nomatch hz)), hce, hO.vm, hcl, hWs, hall, hf⟩⟩
  refine st1 _ ?_
  show Steps p.tables e below (T1.setTop { method := m, pc := pc + 3, locals := ls, stack := .ref T.heap.size :: rest, locked := none }) _
  jvm_step X₁.here [X₁.here.top, hexec, d3', Value.category]
  exact X₁.ldcStringW hexec (own := own) (text := text) (index := is) (a := sa) hown' hstr'.1 hstr'.2
    (g := { method := m, pc := pc + 4, locals := ls, stack := .ref T.heap.size :: .ref T.heap.size :: rest, locked := none }) rfl d4' _ hsteps
end Ends
section Bodies
variable {l : Launch}
theorem vx_ofW {y : MethodName} {ws ws' : List Cond} {rm : Room} {Pc : Array Value → State → Prop} {Qc : Array Value → State → Outcome → State → Prop} {XC : String → State → State → Prop} {mc ms : Nat} {free : Addr → Prop} {cc : ByteArray} {maxL : Nat} {ret : Option FieldType}
    (hy : plainName y.cls = true) (hw : ws = Cond.code y cc maxL ret :: ws')
    (body : ∀ p e s m args below meth c s₁, BodyLoose p l y (headSpec ws rm) cc maxL ret e s m args below meth c s₁ → c.maxLocals = maxL → (∀ x ∈ c.exceptionTable.toList, False) → Pc args s →
      W p l e (headSpec ws rm).room s m args below meth c s.heap [] 0 0 (vx_MQ below Qc XC args s mc ms free) (entryFrame m args maxL)) : vx_Met l y ws rm Pc Qc XC mc ms free := by
  refine MetFree.of_bodyS (code := cc) (maxLocals := maxL) (ret := ret) hy ?_ ?_
  · intro args s m h hn
    obtain ⟨meth, c, h1, h2, h3, h4, h5, h6, -, -⟩ := Cond.code_spec hn (atoms_spec (ws := ws) h _ (by rw [hw]; exact List.mem_cons_self))
    exact ⟨meth, c, h1, h2, h3, h4, h5, h6⟩
  · intro p e s m args below meth c s₁ B hml hP _
    have hh0 : s₁.heap = s.heap := by rw [B.state]; rfl
    have ht : ∀ x ∈ c.exceptionTable.toList, False := by
      obtain ⟨meth9, c9, h1, h2, -, -, -, -, h7, -⟩ := Cond.code_spec B.named (atoms_spec (ws := ws) B.pre _ (by rw [hw]; exact List.mem_cons_self))
      cases Option.some.inj (h1.symm.trans B.method)
      cases Option.some.inj (h2.symm.trans (Stand.of_body B).code)
      intro x hx
      rw [Array.isEmpty_iff.mp h7] at hx
      cases hx
    obtain ⟨t, a1, o, b1, b2, b3⟩ := body p e s m args below meth c s₁ B hml ht hP s₁ hh0 (Stand.of_body B)
    exact ⟨t, o, a1, b1, b2, b3⟩
/-- the table of a body with handlers -/
theorem vx_table {p : Program} {x y : MethodName} {S : Spec} {cc bytes : ByteArray} {maxL maxL' : Nat} {ret ret' : Option FieldType} {e : Env} {s s₁ : State} {m : MethodId} {args : Array Value} {below : List Frame} {meth : Method} {c : Code} {hh : List (Nat × Nat × Nat × Nat)}
    (B : BodyLoose p l y S cc maxL ret e s m args below meth c s₁) (h : (Cond.codeWith y bytes maxL' ret' hh).before args s = true) : c.exceptionTable.toList = tableOf hh := by
  obtain ⟨m9, meth9, c9, hn9, h1, h2, -, -, h6, -⟩ := Cond.codeWith_spec h
  cases Option.some.inj (hn9.symm.trans B.named)
  cases Option.some.inj (h1.symm.trans B.method)
  cases Option.some.inj (h2.symm.trans (Stand.of_body B).code)
  rw [← h6, table_eq]
end Bodies
end VXA
/-! ===== END ===== -/
/-! ===== BEGIN a static call of a method with an exception table ===== -/
section VXS
variable {p : Program} {l : Launch} {e : Env} {R : Room} {s : State} {m : MethodId} {args : Array Value} {below : List Frame} {meth : Method} {c : Code} {T : State} {H : Heap} {locs : List Loc} {cells slots : Nat}
abbrev vx_CSW (R : Room) (s : State) (args : Array Value) (own : String) (index : Nat) (y : MethodName) (bytes : ByteArray) (maxL : Nat) (ret : Option FieldType) (hh : List (Nat × Nat × Nat × Nat)) (ws : List Cond) (rm : Room) (mc ms n : Nat) : Prop :=
  (rm.cells = mc ∧ rm.slots = ms ∧ rm.frames + 1 ≤ R.frames ∧ 8 + (maxL + 11) + rm.locals ≤ R.locals ∧ (∀ w ∈ ws, ∀ (a' : Array Value) (U : State), s.WarmedH U.vm → w.before a' U = true) ∧ Cond.codeWith y bytes maxL ret hh ∈ ws) ∧
  (Cond.codeWith y bytes maxL ret hh).before args s = true ∧ (Cond.initialized y.cls).before args s = true ∧ (y.cls ≠ "java/lang/invoke/MethodHandle" ∧ y.cls ≠ "java/lang/invoke/VarHandle") ∧
  (∀ sig, parseMethodDescriptor y.desc = some sig → n = sig.parameters.length) ∧ (Cond.methodLink own index y).before args s = true ∧ (Cond.static y).before args s = true
theorem vx_cwSW {own : String} {index maxL mc ms : Nat} {y : MethodName} {bytes : ByteArray} {ret : Option FieldType} {hh : List (Nat × Nat × Nat × Nat)} {Ts ws ws' : List Cond} {rm : Room} (n : Nat) (ht : ∀ w ∈ Ts, w.before args s = true) (hT : GoodIn Ts (va_wsS own index y ws)) (hw : ws = Cond.codeWith y bytes maxL ret hh :: ws') (hrc : rm.cells = mc) (hrs : rm.slots = ms)
    (hd : y.cls ≠ "java/lang/invoke/MethodHandle" ∧ y.cls ≠ "java/lang/invoke/VarHandle" ∧ (parseMethodDescriptor y.desc).map (fun d => d.parameters.length) = some n) (hR : rm.frames + 1 ≤ R.frames ∧ 8 + (maxL + 11) + rm.locals ≤ R.locals) :
    vx_CSW R s args own index y bytes maxL ret hh ws rm mc ms n := by
  have ok : ∀ w ∈ va_wsS own index y ws, w.before args s = true := fun w h => ht w (hT w h).1
  have hG : GoodIn Ts ws := fun w h => hT w (by unfold va_wsS; exact List.mem_append_right _ h)
  have hc : Cond.codeWith y bytes maxL ret hh ∈ ws := by rw [hw]; exact List.mem_cons_self
  refine ⟨⟨hrc, hrs, hR.1, hR.2, pay_in ht hG, hc⟩, ht _ (hG _ hc).1, ok _ (by simp [va_wsS]), ⟨hd.1, hd.2.1⟩, fun sig h => ?_, ok _ (by simp [va_wsS]), ok _ (by simp [va_wsS])⟩
  have h2 := hd.2.2
  rw [h] at h2
  exact (Option.some.inj h2).symm
theorem vx_callSW (X : Stand p l e R s m args below meth c T locs cells slots) (hexec : p.tables.exec = Jvm.exec) {own : String} {index : Nat} {y : MethodName} {bytes : ByteArray} {maxL : Nat} {ret : Option FieldType} {hh : List (Nat × Nat × Nat × Nat)}
    (hown : s.vm.findClass own = some m.cls) (hlink : (Cond.methodLink own index y).before args s = true) (hstat : (Cond.static y).before args s = true) (hinit : (Cond.initialized y.cls).before args s = true)
    (hcode : (Cond.codeWith y bytes maxL ret hh).before args s = true) (hy : y.cls ≠ "java/lang/invoke/MethodHandle" ∧ y.cls ≠ "java/lang/invoke/VarHandle")
    {W9 : Nat} {Pre : Pt → Array Value → Prop} {Post : Pt → Array Value → Option Value → Pt → Prop} (hK : Back l R p e below s args y 3 W9 Pre Post)
    {g : JFrame} (hg : g.method = m) (hsize : g.locals.size = c.maxLocals) {argsL rest : List Value} (hlen : ∀ sig, parseMethodDescriptor y.desc = some sig → argsL.length = sig.parameters.length)
    (hstack : g.stack = argsL.reverse ++ rest) (hW : 2 * g.monitorRoom + (rest.map fun v => v.category).sum ≤ W9) (hdg : decode c.code g.pc = .ok (.invokestatic index, 3))
    (hpre : ∀ vm₁, s.WarmedH vm₁ → Pre ⟨T.setVm vm₁, locs, cells, slots⟩ argsL.toArray) :
    ∃ (v : Option Value) (vm₁ : Vm) (B : Pt), s.WarmedH vm₁ ∧ Stand p l e R s m args below meth c B.U B.locs B.cells B.slots ∧ Post ⟨T.setVm vm₁, locs, cells, slots⟩ argsL.toArray v B ∧
      ∀ target, Steps p.tables e below (B.U.setTop { g with pc := g.pc + 3, stack := v.toList ++ rest }) target → Steps p.tables e below (T.setTop g) target := by
  obtain ⟨mk, methM, cM, hnamed, hmethM, -, -, -, -, -, -, hsigM⟩ := Cond.codeWith_spec hcode
  have hstatic : methM.isStatic = true := Cond.static_spec hnamed hmethM hstat
  obtain ⟨kP, hkP, -⟩ := className_of_methodNamed hnamed
  have hinitP : kP.init = .initialized := Cond.initialized_spec (findClass_of_methodNamed hnamed) hkP hinit
  obtain ⟨vm₁, X₁, hstep₁⟩ := X.invokestatic hexec hown hlink hnamed hmethM hstatic hkP hinitP hy (g := g) hg (argsL := argsL) (rest := rest) (hlen _ hsigM) hstack hdg
  obtain ⟨v, B, X', hpost, hsteps⟩ := hK m meth c ⟨T.setVm vm₁, locs, cells, slots⟩ { g with stack := rest } (.invokestatic index) mk argsL.toArray X₁ hg hsize hdg hW (X₁.named hnamed) (hpre vm₁ X₁.warmed)
  exact ⟨v, vm₁, B, X₁.warmed, X', hpost, fun target h => hstep₁ _ fun acts => by rw [doInvoke_state]; exact hsteps.trans h⟩
theorem vx_runSW {y : MethodName} {bytes cc : ByteArray} {maxL nL mc ms n index : Nat} {ret : Option FieldType} {hh : List (Nat × Nat × Nat × Nat)} {ws : List Cond} {rm : Room} {Pc : Array Value → State → Prop} {Qc : Array Value → State → Outcome → State → Prop} {free : Addr → Prop} {Ts : List Cond} {own : String} {As rest : List Value} {g : JFrame}
    (S : CallFix p m c cc nL s args Ts own) (hM : Met l y ws rm Pc Qc mc ms free) (cw : vx_CSW R s args own index y bytes maxL ret hh ws rm mc ms n) (hp : PreS s H Pc As)
    (hg : g.method = m) (hn : As.length = n) (hsize : g.locals.size = nL) (hstack : g.stack = As.reverse ++ rest) (hW : 2 * g.monitorRoom + (rest.map fun v => v.category).sum ≤ 8) (hdg : decode cc g.pc = .ok (.invokestatic index, 3)) (hf : cells + mc ≤ R.cells ∧ slots + ms ≤ R.slots) :
    va_Run p l e R s m args below meth c H locs cells slots mc ms g rest (Qc As.toArray) (free) := by
  obtain ⟨⟨hrc, hrs, hfr, hlo, hws, hcw⟩, hcode, hini, hy, hlen, hl, hstt⟩ := cw
  have hK : Back l R p e below s args y 3 8 (PreOf R mc ms Pc) (PostOf Qc mc ms free) := va_backW (hh := hh) (bytes := bytes) (maxL := maxL) (ret := ret) hM hp.1 hrc hrs hfr hlo hws hcw (fun a' U hW => word_at hW (Or.inl (by first | rfl | simp [Cond.onTables, Cond.keeps, Cond.steady])) hini)
  obtain ⟨hx, hb, hml, ho, -⟩ := S
  intro T hT X
  obtain ⟨v, vm₁, ⟨U', l2, c2, s2⟩, hW₁, X', ⟨g', mk, t, L, e1, e2, hq, h1, hL, h2, h3⟩, st⟩ := vx_callSW X hx (hh := hh) (bytes := bytes) (maxL := maxL) (ret := ret) ho hl hstt hini hcode hy hK hg (hsize.trans hml.symm) (argsL := As) (rest := rest) (fun sig h => hn.trans (hlen sig h)) hstack hW (by rw [hb]; exact hdg)
    (fun vm₁ hW₁ => ⟨hf.1, hf.2, hp.2 (T.setVm vm₁) hT hW₁⟩)
  dsimp only [Pt.U, Pt.locs, Pt.cells, Pt.slots] at X' e1 e2 h1 h2 h3 st
  subst h1; subst h2; subst h3
  exact ⟨v, (T.setVm vm₁).calling g' mk As.toArray, t, U', L, hT, X', hL, e1, e2, hq, st⟩
/-- not caught here, past rows that name other classes: it goes on to the caller -/
theorem vx_outP {p : Program} {l : Launch} {e : Env} {R : Room} {s : State} {m : MethodId} {args : Array Value} {below : List Frame} {meth : Method} {c : Code} {H : Heap} {locs : List Loc} {cells slots : Nat} {free : Addr → Prop} {ls : Array Slot} {rest : List Value} {Qc : Array Value → State → Outcome → State → Prop} {XC : String → State → State → Prop}
    {pc : Nat} {own E : String} {ce : Cell} {q : Addr} {mc ms : Nat} (hown : s.vm.findClass own = some m.cls) (hlocks : meth.locks = false)
    (hpass : ∀ z ∈ c.exceptionTable.toList, covers z pc = false ∨ (z.catchType ≠ 0 ∧ ∃ nm : String, (Cond.classLink own z.catchType nm).before args s = true ∧ va_Nc E nm s)) (hcell : H[q]? = some ce) (hv : ce.vm = .none) (hcl : s.vm.findClass E = some ce.cls)
    (hx : ∀ t : State, t.heap = H → s.vm.Alike t.vm → XC E s t) (hf : ∀ z ∈ locs, free z.base) (hc : cells ≤ mc) (hs : slots ≤ ms) :
    vx_W p l e R s m args below meth c H locs cells slots (vx_MQ below Qc XC args s mc ms free) (F0 m pc ls rest) q := by
  intro T hT X
  have hpl : e.platform.magicAccessors = ({} : Platform).magicAccessors := by rw [X.admits.platform]
  obtain ⟨vm', hW', X', st⟩ := X.outThrough hlocks q (g := F0 m pc ls rest) rfl rfl rfl (cell := ce) (by rw [hT]; exact hcell) (by rw [hv]; rfl)
    (by obtain ⟨k9, h9, -⟩ := Vm.findClass_spec hcl; exact ⟨k9, h9⟩) (fun z hz => by
      rcases hpass z hz with h | ⟨hz0, nm, hl1, hn1⟩
      · exact Or.inl h
      · obtain ⟨c6, hc6, hcl6⟩ := Cond.classLink_spec hown hl1 e.platform hpl
        obtain ⟨a8, b8, h1, h2, h3⟩ := hn1
        cases Option.some.inj (h1.symm.trans hcl)
        cases Option.some.inj (h2.symm.trans hc6)
        exact Or.inr ⟨hz0, _, hcl6, h3⟩)
  obtain ⟨g₀, hfr⟩ := X'.frames_eq
  have hcell9 : ((T.setVm vm').setFrames (.throwing q :: below)).heap[q]? = some ce := by
    show T.heap[q]? = some ce
    rw [hT]; exact hcell
  have hend : Ended ((T.setVm vm').setFrames (.throwing q :: below)) below (.threw q) := State.frames_setFrames _ (State.cur_lt_of_frames hfr)
  refine ⟨(T.setVm vm').setFrames (.throwing q :: below), ?_, .threw q, X'.here.running, hend, Or.inr ⟨q, rfl, E, ce, locs, hx _ hT (X'.ends _).1.alike, hcell9, hv, hcl, (X'.ends _).1, (X'.ends _).2.mono hc hs, hf⟩⟩
  rw [X.pushThrowing_eq]
  exact st
/-- a thing of a world lies in the heap -/
theorem vx_lt {D : va_G} {cl : List vw_C} {ws : va_W} {H1 : Heap} (h : va_P D cl ws H1) {k : Nat} {q : Nat × va_E} (hk : ws[k]? = some q) : q.1 < H1.size := (h k q hk).lt
end VXS
/-! ===== END ===== -/
/-! ===== BEGIN methods with a table of their own: called by a name, returning or throwing ===== -/
section VXH
/-! vx_backW, vx_callVX, vx_callSX, vx_callVW, vx_runVW, vx_runVX, vx_runSX, vx_ofWH follow the same proofs as their sisters above (Free/Laws.lean, Shelf42/LK1.lean); vx_outP calls Shelf42/NT130.lean (outThrough). -/
section
variable {l : Launch} {R : Room} {p : Program} {e : Env} {below : List Frame} {s : State} {sargs : Array Value} {y : MethodName} {len W9 : Nat}
theorem vx_backW {ws : List Cond} {rm : Room} {Pc : Array Value → State → Prop} {Qc : Array Value → State → Outcome → State → Prop} {XC : String → State → State → Prop} {mc ms : Nat} {free : Addr → Prop} {bytes : ByteArray} {maxL : Nat} {ret : Option FieldType} {hh : List (Nat × Nat × Nat × Nat)}
    (hM : vx_Met l y ws rm Pc Qc XC mc ms free) (hblind : FrameBlind Pc) (hrc : rm.cells = mc) (hrs : rm.slots = ms)
    (hframes : rm.frames + 1 ≤ R.frames) (hlocals : W9 + (maxL + 11) + rm.locals ≤ R.locals)
    (hws : ∀ w ∈ ws, ∀ a' U, s.WarmedH U.vm → w.before a' U = true) (hcode : Cond.codeWith y bytes maxL ret hh ∈ ws) (hinit : ∀ a' U, s.WarmedH U.vm → (Cond.initialized y.cls).before a' U = true) :
    vx_Back l R p e below s sargs y len W9 (PreOf R mc ms Pc) (PostOf Qc mc ms free) (vx_Post XC mc ms free) := by
  intro m meth c A g ig mk a X hg hsize hdg hW hn hp
  have h1 : (headSpec ws rm).pre.before a A.U = true := atoms_intro fun w hw => hws w hw _ _ X.warmed
  have h2 : (Cond.codeWith y bytes maxL ret hh).before a A.U = true := hws _ hcode _ _ X.warmed
  have h3 : (Cond.initialized y.cls).before a A.U = true := hinit _ _ X.warmed
  have h4 : A.cells + (headSpec ws rm).room.cells ≤ R.cells := by rw [show (headSpec ws rm).room.cells = mc from hrc]; exact hp.1
  have h5 : A.slots + (headSpec ws rm).room.slots ≤ R.slots := by rw [show (headSpec ws rm).room.slots = ms from hrs]; exact hp.2.1
  have hPc : Pc a (A.U.calling g mk a) := hblind _ _ _ _ hp.2.2
  obtain ⟨U, Ls, c0, s0⟩ := A
  dsimp only [Pt.U, Pt.locs, Pt.cells, Pt.slots] at h1 h2 h3 h4 h5 X hn hPc ⊢
  obtain ⟨m9, methY, cY, hn9, hmY, hcY, -, hlY, -⟩ := Cond.codeWith_spec h2
  cases Option.some.inj (hn9.symm.trans hn)
  obtain ⟨kY, hkY, -⟩ := className_of_methodNamed hn
  have hinitY : kY.init = .initialized := Cond.initialized_spec (findClass_of_methodNamed hn) hkY h3
  have h : At U g.method c below := by rw [hg]; exact X.here
  have hlocals9 : W9 + (maxL + 11) + (headSpec ws rm).room.locals ≤ R.locals := hlocals
  have happ : (headSpec ws rm).appliesLoose y e.platform (U.calling g mk a) = true :=
    Spec.appliesLoose_calling (g := g) h hdg hn hkY hinitY
      (X.room_calling (g := g) (R' := (headSpec ws rm).room) hsize hmY hcY hframes (by rw [hlY]; omega) h4 h5) h1
  obtain ⟨mid, hmid⟩ := h.above
  have hfr : (U.setTop g).frames = (.java g :: mid) ++ below := by rw [State.frames_setTop' g h.top, hmid]; rfl
  obtain ⟨o, s₂, hsteps, -, hend, hq⟩ := Steps.callFree hM p X.admits X.cas X.clock (acts := []) hfr happ hPc trivial
  have hq' : vx_Q Qc XC mc ms free a (U.calling g mk a) o s₂ := hq
  rw [State.frames_setTop' g h.top] at hend
  obtain ⟨g₀, hg0⟩ := Option.isSome_iff_exists.mp h.top
  obtain ⟨r, hr⟩ := State.topJava?_eq_some.mp hg0
  have hr' : (({ U with heap := s₂.heap, slotsUsed := s₂.slotsUsed } : State).setVm s₂.vm).frames = .java g₀ :: r := hr
  rcases hq' with ⟨hqc, L, hfe, hL⟩ | ⟨q, rfl, E, ce, L, hx, hce, hcv, hcl, hW₂, hsm, hL⟩
  · obtain ⟨⟨v, rfl⟩, hW₂, e2, q2, q3, q4, q5, q6⟩ := id hfe
    have e3 : s₂ = ({ (U.calling g mk a).setFrames s₂.frames with heap := s₂.heap, slotsUsed := s₂.slotsUsed } : State).setVm s₂.vm := by
      have : s₂ = ({ s₂ with vm := (U.calling g mk a).vm } : State).setVm s₂.vm := rfl
      rw [e2] at this
      exact this
    obtain ⟨c₂, i₂, len₂, hc₂, hd₂, hf₂⟩ := hend
    have hW' : U.WarmedH s₂.vm := hW₂
    have hcc : c₂ = c := by
      have h1 : s₂.code? g.method = U.code? g.method := by
        rw [State.code?_eq, State.code?_eq, hW'.alike.method?]
      exact Option.some.inj (hc₂.symm.trans (h1.trans h.code))
    subst hcc
    have hlen : len₂ = len := by rw [hdg] at hd₂; cases hd₂; rfl
    subst hlen
    have hs₂ : s₂ = (({ U with heap := s₂.heap, slotsUsed := s₂.slotsUsed } : State).setVm s₂.vm).setTop { g with pc := g.pc + len₂, stack := v.toList ++ g.stack } := by
      refine e3.trans ?_
      rw [hf₂, State.calling_eq h.top, State.setFrames_setFrames, State.setTop_of_frames _ hr', hr]
      rfl
    have hsame : U.sameButNew ({ U with heap := s₂.heap, slotsUsed := s₂.slotsUsed } : State) L mc ms := by
      refine ⟨?_, q2, q3, q4, q5, q6⟩
      obtain ⟨t, ht, -⟩ := State.frames_cons hr
      show ({ U with heap := s₂.heap, slotsUsed := s₂.slotsUsed } : State) = { U.setFrames U.frames with heap := s₂.heap, slotsUsed := s₂.slotsUsed }
      rw [State.setFrames_self ht]
    subst hg
    refine Or.inl ⟨v, ⟨(({ U with heap := s₂.heap, slotsUsed := s₂.slotsUsed } : State).setVm s₂.vm), Ls ++ L, c0 + mc, s0 + ms⟩,
      ⟨X.admits, X.cas, X.clock, X.frames, X.room, X.hears, X.method, X.code, (X.here.setHeapUsed s₂.heap s₂.slotsUsed).setVm hW'.alike, X.tail, State.WarmedH.trans X.warmed hW', X.limits, X.bytes, X.same.trans (hsame.setVm s.vm)⟩,
      ⟨g, mk, s₂, L, rfl, rfl, hqc, rfl, hL, rfl, rfl⟩, ?_⟩
    show Steps p.tables e below _ ((({ U with heap := s₂.heap, slotsUsed := s₂.slotsUsed } : State).setVm s₂.vm).setTop { g with pc := g.pc + len₂, stack := v.toList ++ g.stack })
    rw [← hs₂]
    exact hsteps
  · obtain ⟨e2, q2, q3, q4, q5, q6⟩ := id hsm
    have e3 : s₂ = ({ (U.calling g mk a).setFrames s₂.frames with heap := s₂.heap, slotsUsed := s₂.slotsUsed } : State).setVm s₂.vm := by
      have : s₂ = ({ s₂ with vm := (U.calling g mk a).vm } : State).setVm s₂.vm := rfl
      rw [e2] at this
      exact this
    have hf₂ : s₂.frames = .throwing q :: .java g :: U.frames.tail := hend
    have hW' : U.WarmedH s₂.vm := hW₂
    have hs₂ : s₂ = ((({ U with heap := s₂.heap, slotsUsed := s₂.slotsUsed } : State).setVm s₂.vm).setTop g).pushFrame (.throwing q) := by
      refine e3.trans ?_
      rw [hf₂, State.calling_eq h.top, State.setFrames_setFrames, State.pushFrame, State.frames_setTop _ hr', State.setTop_of_frames _ hr', State.setFrames_setFrames, hr]
      rfl
    have hsame : U.sameButNew ({ U with heap := s₂.heap, slotsUsed := s₂.slotsUsed } : State) L mc ms := by
      refine ⟨?_, q2, q3, q4, q5, q6⟩
      obtain ⟨t, ht, -⟩ := State.frames_cons hr
      show ({ U with heap := s₂.heap, slotsUsed := s₂.slotsUsed } : State) = { U.setFrames U.frames with heap := s₂.heap, slotsUsed := s₂.slotsUsed }
      rw [State.setFrames_self ht]
    subst hg
    refine Or.inr ⟨q, ⟨(({ U with heap := s₂.heap, slotsUsed := s₂.slotsUsed } : State).setVm s₂.vm), Ls ++ L, c0 + mc, s0 + ms⟩,
      ⟨X.admits, X.cas, X.clock, X.frames, X.room, X.hears, X.method, X.code, (X.here.setHeapUsed s₂.heap s₂.slotsUsed).setVm hW'.alike, X.tail, State.WarmedH.trans X.warmed hW', X.limits, X.bytes, X.same.trans (hsame.setVm s.vm)⟩,
      ⟨g, mk, s₂, L, E, ce, rfl, rfl, hx, hce, hcv, hcl, rfl, hL, rfl, rfl⟩, ?_⟩
    show Steps p.tables e below _ (((({ U with heap := s₂.heap, slotsUsed := s₂.slotsUsed } : State).setVm s₂.vm).setTop g).pushFrame (.throwing q))
    rw [← hs₂]
    exact hsteps
end
variable {p : Program} {l : Launch} {e : Env} {R : Room} {s : State} {m : MethodId} {args : Array Value} {below : List Frame} {meth : Method} {c : Code} {T : State} {H : Heap} {locs : List Loc} {cells slots : Nat}
theorem vx_callVX (X : Stand p l e R s m args below meth c T locs cells slots) (hexec : p.tables.exec = Jvm.exec) {own C : String} {index : Nat} {y : MethodName} {bytes : ByteArray} {maxL : Nat} {ret : Option FieldType} {hh : List (Nat × Nat × Nat × Nat)}
    (hown : s.vm.findClass own = some m.cls) (hlink : (Cond.methodLink own index y).before args s = true) (hinst : (Cond.instanceMethod y).before args s = true) (hsel : (Cond.selects C y y).before args s = true)
    (hcode : (Cond.codeWith y bytes maxL ret hh).before args s = true) (hy : y.cls ≠ "java/lang/invoke/MethodHandle" ∧ y.cls ≠ "java/lang/invoke/VarHandle")
    {W9 : Nat} {Pre : Pt → Array Value → Prop} {Post : Pt → Array Value → Option Value → Pt → Prop} {PostX : Pt → Array Value → Addr → Pt → Prop} (hK : vx_Back l R p e below s args y 3 W9 Pre Post PostX)
    {b : Addr} {cellB : Cell} (hcell : T.heap[b]? = some cellB) (hobj : cellB.vm.isStatics = false) (hcls : s.vm.findClass C = some cellB.cls)
    {g : JFrame} (hg : g.method = m) (hsize : g.locals.size = c.maxLocals) {argsL rest : List Value} (hlen : ∀ sig, parseMethodDescriptor y.desc = some sig → argsL.length = sig.parameters.length)
    (hstack : g.stack = argsL.reverse ++ .ref b :: rest) (hW : 2 * g.monitorRoom + (rest.map fun v => v.category).sum ≤ W9) (hdg : decode c.code g.pc = .ok (.invokevirtual index, 3))
    (hpre : ∀ vm₁, s.WarmedH vm₁ → Pre ⟨T.setVm vm₁, locs, cells, slots⟩ (Value.ref b :: argsL).toArray) :
    (∃ (v : Option Value) (vm₁ : Vm) (B : Pt), s.WarmedH vm₁ ∧ Stand p l e R s m args below meth c B.U B.locs B.cells B.slots ∧ Post ⟨T.setVm vm₁, locs, cells, slots⟩ (Value.ref b :: argsL).toArray v B ∧
      ∀ target, Steps p.tables e below (B.U.setTop { g with pc := g.pc + 3, stack := v.toList ++ rest }) target → Steps p.tables e below (T.setTop g) target) ∨
    (∃ (q : Addr) (vm₁ : Vm) (B : Pt), s.WarmedH vm₁ ∧ Stand p l e R s m args below meth c B.U B.locs B.cells B.slots ∧ PostX ⟨T.setVm vm₁, locs, cells, slots⟩ (Value.ref b :: argsL).toArray q B ∧
      Steps p.tables e below (T.setTop g) ((B.U.setTop { g with stack := rest }).pushFrame (.throwing q))) := by
  obtain ⟨mk, methM, hnamed, hmethM, hstM, habM⟩ := Cond.instanceMethod_spec hinst
  obtain ⟨m8, methM', cM, hn8, hmethM', -, -, -, -, -, -, hsigM⟩ := Cond.codeWith_spec hcode
  cases Option.some.inj (hn8.symm.trans hnamed)
  cases hmethM.symm.trans hmethM'
  obtain ⟨c2, r2, m2, q1, q2, q3, q4, kP, hkP, hkPi⟩ := Cond.selects_spec hsel
  cases hcls.symm.trans q1
  cases (State.methodFound?_of_named hnamed hy).symm.trans q2
  cases hnamed.symm.trans q3
  have hselP : selectMethod e.platform s.vm cellB.cls mk = .method mk := by rw [Launch.admits_selectMethod X.admits]; exact q4
  obtain ⟨vm₁, X₁, hstep₁⟩ := X.invokevirtual hexec hown hlink hnamed hmethM hstM hkP hkPi hy (a := b) (cell := cellB) hcell
    (fun z h => by rw [h] at hobj; cases hobj) hselP hmethM habM hkP hkPi (g := g) hg (argsL := argsL) (rest := rest) (hlen _ hsigM) hstack hdg
  rcases hK m meth c ⟨T.setVm vm₁, locs, cells, slots⟩ { g with stack := rest } (.invokevirtual index) mk (Value.ref b :: argsL).toArray X₁ hg hsize hdg hW (X₁.named hnamed) (hpre vm₁ X₁.warmed) with ⟨v, B, X', hpost, hsteps⟩ | ⟨q, B, X', hpost, hsteps⟩
  · exact Or.inl ⟨v, vm₁, B, X₁.warmed, X', hpost, fun target h => hstep₁ _ fun acts => by rw [doInvoke_state]; exact hsteps.trans h⟩
  · exact Or.inr ⟨q, vm₁, B, X₁.warmed, X', hpost, hstep₁ _ fun acts => by rw [doInvoke_state]; exact hsteps⟩
theorem vx_callSX (X : Stand p l e R s m args below meth c T locs cells slots) (hexec : p.tables.exec = Jvm.exec) {own : String} {index : Nat} {y : MethodName} {bytes : ByteArray} {maxL : Nat} {ret : Option FieldType} {hh : List (Nat × Nat × Nat × Nat)}
    (hown : s.vm.findClass own = some m.cls) (hlink : (Cond.methodLink own index y).before args s = true) (hstat : (Cond.static y).before args s = true) (hinit : (Cond.initialized y.cls).before args s = true)
    (hcode : (Cond.codeWith y bytes maxL ret hh).before args s = true) (hy : y.cls ≠ "java/lang/invoke/MethodHandle" ∧ y.cls ≠ "java/lang/invoke/VarHandle")
    {W9 : Nat} {Pre : Pt → Array Value → Prop} {Post : Pt → Array Value → Option Value → Pt → Prop} {PostX : Pt → Array Value → Addr → Pt → Prop} (hK : vx_Back l R p e below s args y 3 W9 Pre Post PostX)
    {g : JFrame} (hg : g.method = m) (hsize : g.locals.size = c.maxLocals) {argsL rest : List Value} (hlen : ∀ sig, parseMethodDescriptor y.desc = some sig → argsL.length = sig.parameters.length)
    (hstack : g.stack = argsL.reverse ++ rest) (hW : 2 * g.monitorRoom + (rest.map fun v => v.category).sum ≤ W9) (hdg : decode c.code g.pc = .ok (.invokestatic index, 3))
    (hpre : ∀ vm₁, s.WarmedH vm₁ → Pre ⟨T.setVm vm₁, locs, cells, slots⟩ argsL.toArray) :
    (∃ (v : Option Value) (vm₁ : Vm) (B : Pt), s.WarmedH vm₁ ∧ Stand p l e R s m args below meth c B.U B.locs B.cells B.slots ∧ Post ⟨T.setVm vm₁, locs, cells, slots⟩ argsL.toArray v B ∧
      ∀ target, Steps p.tables e below (B.U.setTop { g with pc := g.pc + 3, stack := v.toList ++ rest }) target → Steps p.tables e below (T.setTop g) target) ∨
    (∃ (q : Addr) (vm₁ : Vm) (B : Pt), s.WarmedH vm₁ ∧ Stand p l e R s m args below meth c B.U B.locs B.cells B.slots ∧ PostX ⟨T.setVm vm₁, locs, cells, slots⟩ argsL.toArray q B ∧
      Steps p.tables e below (T.setTop g) ((B.U.setTop { g with stack := rest }).pushFrame (.throwing q))) := by
  obtain ⟨mk, methM, cM, hnamed, hmethM, -, -, -, -, -, -, hsigM⟩ := Cond.codeWith_spec hcode
  have hstatic : methM.isStatic = true := Cond.static_spec hnamed hmethM hstat
  obtain ⟨kP, hkP, -⟩ := className_of_methodNamed hnamed
  have hinitP : kP.init = .initialized := Cond.initialized_spec (findClass_of_methodNamed hnamed) hkP hinit
  obtain ⟨vm₁, X₁, hstep₁⟩ := X.invokestatic hexec hown hlink hnamed hmethM hstatic hkP hinitP hy (g := g) hg (argsL := argsL) (rest := rest) (hlen _ hsigM) hstack hdg
  rcases hK m meth c ⟨T.setVm vm₁, locs, cells, slots⟩ { g with stack := rest } (.invokestatic index) mk argsL.toArray X₁ hg hsize hdg hW (X₁.named hnamed) (hpre vm₁ X₁.warmed) with ⟨v, B, X', hpost, hsteps⟩ | ⟨q, B, X', hpost, hsteps⟩
  · exact Or.inl ⟨v, vm₁, B, X₁.warmed, X', hpost, fun target h => hstep₁ _ fun acts => by rw [doInvoke_state]; exact hsteps.trans h⟩
  · exact Or.inr ⟨q, vm₁, B, X₁.warmed, X', hpost, hstep₁ _ fun acts => by rw [doInvoke_state]; exact hsteps⟩
theorem vx_callVW (X : Stand p l e R s m args below meth c T locs cells slots) (hexec : p.tables.exec = Jvm.exec) {own C : String} {index : Nat} {y : MethodName} {bytes : ByteArray} {maxL : Nat} {ret : Option FieldType} {hh : List (Nat × Nat × Nat × Nat)}
    (hown : s.vm.findClass own = some m.cls) (hlink : (Cond.methodLink own index y).before args s = true) (hinst : (Cond.instanceMethod y).before args s = true) (hsel : (Cond.selects C y y).before args s = true)
    (hcode : (Cond.codeWith y bytes maxL ret hh).before args s = true) (hy : y.cls ≠ "java/lang/invoke/MethodHandle" ∧ y.cls ≠ "java/lang/invoke/VarHandle")
    {W9 : Nat} {Pre : Pt → Array Value → Prop} {Post : Pt → Array Value → Option Value → Pt → Prop} (hK : Back l R p e below s args y 3 W9 Pre Post)
    {b : Addr} {cellB : Cell} (hcell : T.heap[b]? = some cellB) (hobj : cellB.vm.isStatics = false) (hcls : s.vm.findClass C = some cellB.cls)
    {g : JFrame} (hg : g.method = m) (hsize : g.locals.size = c.maxLocals) {argsL rest : List Value} (hlen : ∀ sig, parseMethodDescriptor y.desc = some sig → argsL.length = sig.parameters.length)
    (hstack : g.stack = argsL.reverse ++ .ref b :: rest) (hW : 2 * g.monitorRoom + (rest.map fun v => v.category).sum ≤ W9) (hdg : decode c.code g.pc = .ok (.invokevirtual index, 3))
    (hpre : ∀ vm₁, s.WarmedH vm₁ → Pre ⟨T.setVm vm₁, locs, cells, slots⟩ (Value.ref b :: argsL).toArray) :
    ∃ (v : Option Value) (vm₁ : Vm) (B : Pt), s.WarmedH vm₁ ∧ Stand p l e R s m args below meth c B.U B.locs B.cells B.slots ∧ Post ⟨T.setVm vm₁, locs, cells, slots⟩ (Value.ref b :: argsL).toArray v B ∧
      ∀ target, Steps p.tables e below (B.U.setTop { g with pc := g.pc + 3, stack := v.toList ++ rest }) target → Steps p.tables e below (T.setTop g) target := by
  obtain ⟨mk, methM, hnamed, hmethM, hstM, habM⟩ := Cond.instanceMethod_spec hinst
  obtain ⟨m8, methM', cM, hn8, hmethM', -, -, -, -, -, -, hsigM⟩ := Cond.codeWith_spec hcode
  cases Option.some.inj (hn8.symm.trans hnamed)
  cases hmethM.symm.trans hmethM'
  obtain ⟨c2, r2, m2, q1, q2, q3, q4, kP, hkP, hkPi⟩ := Cond.selects_spec hsel
  cases hcls.symm.trans q1
  cases (State.methodFound?_of_named hnamed hy).symm.trans q2
  cases hnamed.symm.trans q3
  have hselP : selectMethod e.platform s.vm cellB.cls mk = .method mk := by rw [Launch.admits_selectMethod X.admits]; exact q4
  obtain ⟨vm₁, X₁, hstep₁⟩ := X.invokevirtual hexec hown hlink hnamed hmethM hstM hkP hkPi hy (a := b) (cell := cellB) hcell
    (fun z h => by rw [h] at hobj; cases hobj) hselP hmethM habM hkP hkPi (g := g) hg (argsL := argsL) (rest := rest) (hlen _ hsigM) hstack hdg
  obtain ⟨v, B, X', hpost, hsteps⟩ := hK m meth c ⟨T.setVm vm₁, locs, cells, slots⟩ { g with stack := rest } (.invokevirtual index) mk (Value.ref b :: argsL).toArray X₁ hg hsize hdg hW (X₁.named hnamed) (hpre vm₁ X₁.warmed)
  exact ⟨v, vm₁, B, X₁.warmed, X', hpost, fun target h => hstep₁ _ fun acts => by rw [doInvoke_state]; exact hsteps.trans h⟩
abbrev vx_CVW (R : Room) (s : State) (args : Array Value) (own C : String) (index : Nat) (y : MethodName) (bytes : ByteArray) (maxL : Nat) (ret : Option FieldType) (hh : List (Nat × Nat × Nat × Nat)) (ws : List Cond) (rm : Room) (mc ms n : Nat) : Prop :=
  (rm.cells = mc ∧ rm.slots = ms ∧ rm.frames + 1 ≤ R.frames ∧ 8 + (maxL + 11) + rm.locals ≤ R.locals ∧ (∀ w ∈ ws, ∀ (a' : Array Value) (U : State), s.WarmedH U.vm → w.before a' U = true) ∧ Cond.codeWith y bytes maxL ret hh ∈ ws) ∧
  (Cond.codeWith y bytes maxL ret hh).before args s = true ∧ (Cond.initialized y.cls).before args s = true ∧ (y.cls ≠ "java/lang/invoke/MethodHandle" ∧ y.cls ≠ "java/lang/invoke/VarHandle") ∧
  (∀ sig, parseMethodDescriptor y.desc = some sig → n = sig.parameters.length) ∧ (Cond.methodLink own index y).before args s = true ∧ (Cond.instanceMethod y).before args s = true ∧ (Cond.selects C y y).before args s = true
theorem vx_cwVW {own C : String} {index maxL mc ms : Nat} {y : MethodName} {bytes : ByteArray} {ret : Option FieldType} {hh : List (Nat × Nat × Nat × Nat)} {Ts ws ws' : List Cond} {rm : Room} (n : Nat) (ht : ∀ w ∈ Ts, w.before args s = true) (hT : GoodIn Ts (wsV own index C y ws)) (hw : ws = Cond.codeWith y bytes maxL ret hh :: ws') (hrc : rm.cells = mc) (hrs : rm.slots = ms)
    (hd : y.cls = C ∧ y.cls ≠ "java/lang/invoke/MethodHandle" ∧ y.cls ≠ "java/lang/invoke/VarHandle" ∧ (parseMethodDescriptor y.desc).map (fun d => d.parameters.length) = some n) (hR : rm.frames + 1 ≤ R.frames ∧ 8 + (maxL + 11) + rm.locals ≤ R.locals) :
    vx_CVW R s args own C index y bytes maxL ret hh ws rm mc ms n := by
  obtain ⟨hC, hd⟩ := hd
  subst hC
  have ok : ∀ w ∈ wsV own index y.cls y ws, w.before args s = true := fun w h => ht w (hT w h).1
  have hG : GoodIn Ts ws := fun w h => hT w (by unfold wsV; exact List.mem_append_right _ h)
  have hc : Cond.codeWith y bytes maxL ret hh ∈ ws := by rw [hw]; exact List.mem_cons_self
  refine ⟨⟨hrc, hrs, hR.1, hR.2, pay_in ht hG, hc⟩, ht _ (hG _ hc).1, ok _ (by simp [wsV]), ⟨hd.1, hd.2.1⟩, fun sig h => ?_, ok _ (by simp [wsV]), ok _ (by simp [wsV]), ok _ (by simp [wsV])⟩
  have h2 := hd.2.2
  rw [h] at h2
  exact (Option.some.inj h2).symm
theorem vx_runVW {y : MethodName} {bytes cc : ByteArray} {maxL nL mc ms n index : Nat} {ret : Option FieldType} {hh : List (Nat × Nat × Nat × Nat)} {ws : List Cond} {rm : Room} {Pc : Array Value → State → Prop} {Qc : Array Value → State → Outcome → State → Prop} {free : Addr → Prop} {Ts : List Cond} {own C : String} {b : Addr} {As rest : List Value} {g : JFrame}
    (S : CallFix p m c cc nL s args Ts own) (hM : Met l y ws rm Pc Qc mc ms free) (cw : vx_CVW R s args own C index y bytes maxL ret hh ws rm mc ms n) (hp : PreV s H C b Pc As)
    (hg : g.method = m) (hn : As.length = n) (hsize : g.locals.size = nL) (hstack : g.stack = As.reverse ++ .ref b :: rest) (hW : 2 * g.monitorRoom + (rest.map fun v => v.category).sum ≤ 8) (hdg : decode cc g.pc = .ok (.invokevirtual index, 3)) (hf : cells + mc ≤ R.cells ∧ slots + ms ≤ R.slots) :
    va_Run p l e R s m args below meth c H locs cells slots mc ms g rest (Qc (Value.ref b :: As).toArray) free := by
  obtain ⟨⟨hrc, hrs, hfr, hlo, hws, hcw⟩, hcode, hini, hy, hlen, hl, hin, hse⟩ := cw
  have hK : Back l R p e below s args y 3 8 (PreOf R mc ms Pc) (PostOf Qc mc ms free) := va_backW (hh := hh) (bytes := bytes) (maxL := maxL) (ret := ret) hM hp.1 hrc hrs hfr hlo hws hcw (fun a' U hW => word_at hW (Or.inl (by first | rfl | simp [Cond.onTables, Cond.keeps, Cond.steady])) hini)
  obtain ⟨hx, hb, hml, ho, -⟩ := S
  obtain ⟨-, ⟨cellB, hcB, hoB, hclB⟩, hPc⟩ := hp
  intro T hT X
  obtain ⟨v, vm₁, ⟨U', l2, c2, s2⟩, hW₁, X', ⟨g', mk, t, L, e1, e2, hq, h1, hL, h2, h3⟩, st⟩ := vx_callVW X hx (C := C) (hh := hh) (bytes := bytes) (maxL := maxL) (ret := ret) ho hl hin hse hcode hy hK (by rw [hT]; exact hcB) hoB hclB hg (hsize.trans hml.symm) (argsL := As) (rest := rest) (fun sig h => hn.trans (hlen sig h)) hstack hW (by rw [hb]; exact hdg)
    (fun vm₁ hW₁ => ⟨hf.1, hf.2, hPc (T.setVm vm₁) hT hW₁⟩)
  dsimp only [Pt.U, Pt.locs, Pt.cells, Pt.slots] at X' e1 e2 h1 h2 h3 st
  subst h1; subst h2; subst h3
  exact ⟨v, (T.setVm vm₁).calling g' mk (Value.ref b :: As).toArray, t, U', L, hT, X', hL, e1, e2, hq, st⟩
section
variable {y : MethodName} {bytes cc : ByteArray} {maxL nL mc ms n index : Nat} {ret : Option FieldType} {ws : List Cond} {rm : Room} {Pc : Array Value → State → Prop} {Qc : Array Value → State → Outcome → State → Prop} {XC : String → State → State → Prop} {free : Addr → Prop} {Ts : List Cond} {own C : String} {b : Addr} {As rest : List Value} {g : JFrame}
theorem vx_runVX {hh : List (Nat × Nat × Nat × Nat)} (S : CallFix p m c cc nL s args Ts own) (hM : vx_Met l y ws rm Pc Qc XC mc ms free) (cw : vx_CVW R s args own C index y bytes maxL ret hh ws rm mc ms n) (hp : PreV s H C b Pc As)
    (hg : g.method = m) (hn : As.length = n) (hsize : g.locals.size = nL) (hstack : g.stack = As.reverse ++ .ref b :: rest) (hW : 2 * g.monitorRoom + (rest.map fun v => v.category).sum ≤ 8) (hdg : decode cc g.pc = .ok (.invokevirtual index, 3)) (hf : cells + mc ≤ R.cells ∧ slots + ms ≤ R.slots) :
    vx_Run p l e R s m args below meth c H locs cells slots mc ms g rest (Qc (Value.ref b :: As).toArray) XC free := by
  obtain ⟨⟨hrc, hrs, hfr, hlo, hws, hcw⟩, hcode, hini, hy, hlen, hl, hin, hse⟩ := cw
  have hK : vx_Back l R p e below s args y 3 8 (PreOf R mc ms Pc) (PostOf Qc mc ms free) (vx_Post XC mc ms free) := vx_backW (hh := hh) (bytes := bytes) (maxL := maxL) (ret := ret) hM hp.1 hrc hrs hfr hlo hws hcw (fun a' U hW => word_at hW (Or.inl (by first | rfl | simp [Cond.onTables, Cond.keeps, Cond.steady])) hini)
  obtain ⟨hx, hb, hml, ho, -⟩ := S
  obtain ⟨-, ⟨cellB, hcB, hoB, hclB⟩, hPc⟩ := hp
  intro T hT X
  rcases vx_callVX X hx (C := C) (hh := hh) (bytes := bytes) (maxL := maxL) (ret := ret) ho hl hin hse hcode hy hK (by rw [hT]; exact hcB) hoB hclB hg (hsize.trans hml.symm) (argsL := As) (rest := rest) (fun sig h => hn.trans (hlen sig h)) hstack hW (by rw [hb]; exact hdg)
    (fun vm₁ hW₁ => ⟨hf.1, hf.2, hPc (T.setVm vm₁) hT hW₁⟩) with ⟨v, vm₁, ⟨U', l2, c2, s2⟩, hW₁, X', ⟨g', mk, t, L, e1, e2, hq, h1, hL, h2, h3⟩, st⟩ | ⟨q, vm₁, ⟨U', l2, c2, s2⟩, hW₁, X', ⟨g', mk, t, L, E, ce, e1, e2, hq, hce, hcv, hcl, h1, hL, h2, h3⟩, st⟩
  · dsimp only [Pt.U, Pt.locs, Pt.cells, Pt.slots] at X' e1 e2 h1 h2 h3 st
    subst h1; subst h2; subst h3
    exact Or.inl ⟨v, (T.setVm vm₁).calling g' mk (Value.ref b :: As).toArray, t, U', L, hT, X', hL, e1, e2, hq, st⟩
  · dsimp only [Pt.U, Pt.locs, Pt.cells, Pt.slots] at X' e1 e2 h1 h2 h3 st hcl
    subst h1; subst h2; subst h3
    exact Or.inr ⟨q, (T.setVm vm₁).calling g' mk (Value.ref b :: As).toArray, t, U', L, E, ce, hT, X', hL, e1, e2, hq, hce, hcv, vx_cls hW₁ hcl, st⟩
theorem vx_runSX {hh : List (Nat × Nat × Nat × Nat)} (S : CallFix p m c cc nL s args Ts own) (hM : vx_Met l y ws rm Pc Qc XC mc ms free) (cw : vx_CSW R s args own index y bytes maxL ret hh ws rm mc ms n) (hp : PreS s H Pc As)
    (hg : g.method = m) (hn : As.length = n) (hsize : g.locals.size = nL) (hstack : g.stack = As.reverse ++ rest) (hW : 2 * g.monitorRoom + (rest.map fun v => v.category).sum ≤ 8) (hdg : decode cc g.pc = .ok (.invokestatic index, 3)) (hf : cells + mc ≤ R.cells ∧ slots + ms ≤ R.slots) :
    vx_Run p l e R s m args below meth c H locs cells slots mc ms g rest (Qc As.toArray) XC free := by
  obtain ⟨⟨hrc, hrs, hfr, hlo, hws, hcw⟩, hcode, hini, hy, hlen, hl, hstt⟩ := cw
  have hK : vx_Back l R p e below s args y 3 8 (PreOf R mc ms Pc) (PostOf Qc mc ms free) (vx_Post XC mc ms free) := vx_backW (hh := hh) (bytes := bytes) (maxL := maxL) (ret := ret) hM hp.1 hrc hrs hfr hlo hws hcw (fun a' U hW => word_at hW (Or.inl (by first | rfl | simp [Cond.onTables, Cond.keeps, Cond.steady])) hini)
  obtain ⟨hx, hb, hml, ho, -⟩ := S
  intro T hT X
  rcases vx_callSX X hx (hh := hh) (bytes := bytes) (maxL := maxL) (ret := ret) ho hl hstt hini hcode hy hK hg (hsize.trans hml.symm) (argsL := As) (rest := rest) (fun sig h => hn.trans (hlen sig h)) hstack hW (by rw [hb]; exact hdg)
    (fun vm₁ hW₁ => ⟨hf.1, hf.2, hp.2 (T.setVm vm₁) hT hW₁⟩) with ⟨v, vm₁, ⟨U', l2, c2, s2⟩, hW₁, X', ⟨g', mk, t, L, e1, e2, hq, h1, hL, h2, h3⟩, st⟩ | ⟨q, vm₁, ⟨U', l2, c2, s2⟩, hW₁, X', ⟨g', mk, t, L, E, ce, e1, e2, hq, hce, hcv, hcl, h1, hL, h2, h3⟩, st⟩
  · dsimp only [Pt.U, Pt.locs, Pt.cells, Pt.slots] at X' e1 e2 h1 h2 h3 st
    subst h1; subst h2; subst h3
    exact Or.inl ⟨v, (T.setVm vm₁).calling g' mk As.toArray, t, U', L, hT, X', hL, e1, e2, hq, st⟩
  · dsimp only [Pt.U, Pt.locs, Pt.cells, Pt.slots] at X' e1 e2 h1 h2 h3 st hcl
    subst h1; subst h2; subst h3
    exact Or.inr ⟨q, (T.setVm vm₁).calling g' mk As.toArray, t, U', L, E, ce, hT, X', hL, e1, e2, hq, hce, hcv, vx_cls hW₁ hcl, st⟩
end
end VXH
theorem vx_ofWH {l : Launch} {y : MethodName} {ws ws' : List Cond} {rm : Room} {Pc : Array Value → State → Prop} {Qc : Array Value → State → Outcome → State → Prop} {XC : String → State → State → Prop} {mc ms : Nat} {free : Addr → Prop} {cc : ByteArray} {maxL : Nat} {ret : Option FieldType} {hh : List (Nat × Nat × Nat × Nat)}
    (hy : plainName y.cls = true) (hw : ws = Cond.codeWith y cc maxL ret hh :: ws')
    (body : ∀ p e s m args below meth c s₁, BodyLoose p l y (headSpec ws rm) cc maxL ret e s m args below meth c s₁ → c.maxLocals = maxL → Pc args s →
      W p l e (headSpec ws rm).room s m args below meth c s.heap [] 0 0 (vx_MQ below Qc XC args s mc ms free) (entryFrame m args maxL)) : vx_Met l y ws rm Pc Qc XC mc ms free := by
  refine MetFree.of_bodyS (code := cc) (maxLocals := maxL) (ret := ret) hy ?_ ?_
  · intro args s m h hn
    obtain ⟨m9, meth, c, hn9, h1, h2, h3, h4, -, h5, h6, -⟩ := Cond.codeWith_spec (atoms_spec (ws := ws) h _ (by rw [hw]; exact List.mem_cons_self))
    cases hn.symm.trans hn9
    exact ⟨meth, c, h1, h2, h3, h4, h5, h6⟩
  · intro p e s m args below meth c s₁ B hml hP _
    have hh0 : s₁.heap = s.heap := by rw [B.state]; rfl
    obtain ⟨t, a1, o, b1, b2, b3⟩ := body p e s m args below meth c s₁ B hml hP s₁ hh0 (Stand.of_body B)
    exact ⟨t, o, a1, b1, b2, b3⟩
/-! ===== END ===== -/
end
section
/-! ===== BEGIN printed: names, fields, word lists, decode rows ===== -/
def RX0 : String := "FundBook$Loan"
def TX0 : u_T := fun k => match k with
  | 0 => ("FundBook$Loan", "branch", "I", true)
  | 1 => ("FundBook$Loan", "product", "I", true)
  | 2 => ("FundBook$Loan", "rate", "I", true)
  | 3 => ("FundBook$Loan", "hasOption", "Z", true)
  | 4 => ("FundBook$Loan", "optionRate", "I", true)
  | 5 => ("FundBook$Loan", "parts", "[I", true)
  | 6 => ("FundBook$Loan", "fundingRates", "[I", true)
  | _ => ("FundBook$Loan", "paidParts", "I", false)
def tyX0 : Nat → FieldType := fun k => match k with
  | 0 => .int
  | 1 => .int
  | 2 => .int
  | 3 => .boolean
  | 4 => .int
  | 5 => .array .int
  | 6 => .array .int
  | _ => .int
abbrev wsX00 : List Cond := u_ws RX0 TX0 8
theorem nmX0 : ∀ a, a < 8 → ∀ b, b < 8 → a ≠ b → (TX0 a).2.1 ≠ (TX0 b).2.1 := by decide +kernel
theorem tyX0_ok : ∀ k, k < 8 → parseFieldDescriptor (TX0 k).2.2.1 = some (tyX0 k) := by decide +kernel
abbrev cX0_init : ByteArray := prog_2_method_1_code
def yX0_init : MethodName := ⟨RX0, "<init>", "(IIIZI[I[I)V"⟩
abbrev cX0_unpaid : ByteArray := prog_2_method_2_code
def yX0_unpaid : MethodName := ⟨RX0, "unpaid", "()I"⟩
abbrev cX0_partAhead : ByteArray := prog_2_method_3_code
def yX0_partAhead : MethodName := ⟨RX0, "partAhead", "(I)I"⟩
abbrev cX0_customerInterest : ByteArray := prog_2_method_4_code
def yX0_customerInterest : MethodName := ⟨RX0, "customerInterest", "()I"⟩
abbrev cX0_funding : ByteArray := prog_2_method_5_code
def yX0_funding : MethodName := ⟨RX0, "funding", "()I"⟩
abbrev cX0_optionCharge : ByteArray := prog_2_method_6_code
def yX0_optionCharge : MethodName := ⟨RX0, "optionCharge", "()I"⟩
abbrev cX0_ownMargin : ByteArray := prog_2_method_7_code
def yX0_ownMargin : MethodName := ⟨RX0, "ownMargin", "()I"⟩
abbrev cX0_payPart : ByteArray := prog_2_method_8_code
def yX0_payPart : MethodName := ⟨RX0, "payPart", "()V"⟩
abbrev cX0_settle : ByteArray := prog_2_method_9_code
def yX0_settle : MethodName := ⟨RX0, "settle", "()V"⟩
def RX1 : String := "FundBook$Replica"
def TX1 : u_T := fun k => match k with
  | 0 => ("FundBook$Replica", "amounts", "[I", true)
  | _ => ("FundBook$Replica", "rates", "[I", true)
def tyX1 : Nat → FieldType := fun k => match k with
  | 0 => .array .int
  | _ => .array .int
abbrev wsX10 : List Cond := u_ws RX1 TX1 2
theorem nmX1 : ∀ a, a < 2 → ∀ b, b < 2 → a ≠ b → (TX1 a).2.1 ≠ (TX1 b).2.1 := by decide +kernel
theorem tyX1_ok : ∀ k, k < 2 → parseFieldDescriptor (TX1 k).2.2.1 = some (tyX1 k) := by decide +kernel
abbrev cX1_init : ByteArray := prog_3_method_1_code
def yX1_init : MethodName := ⟨RX1, "<init>", "()V"⟩
abbrev cX1_lay : ByteArray := prog_3_method_2_code
def yX1_lay : MethodName := ⟨RX1, "lay", "(III)V"⟩
abbrev cX1_layAll : ByteArray := prog_3_method_3_code
def yX1_layAll : MethodName := ⟨RX1, "layAll", "(II)V"⟩
abbrev cX1_averageRate : ByteArray := prog_3_method_4_code
def yX1_averageRate : MethodName := ⟨RX1, "averageRate", "()I"⟩
def RX2 : String := "FundBook"
def TX2 : u_T := fun k => match k with
  | 0 => ("FundBook", "curve", "[I", true)
  | 1 => ("FundBook", "depositRate", "I", false)
  | 2 => ("FundBook", "optionRate", "I", false)
  | 3 => ("FundBook", "coreShare", "I", false)
  | 4 => ("FundBook", "now", "I", false)
  | 5 => ("FundBook", "loanRows", "[LFundBook$Loan;", true)
  | 6 => ("FundBook", "loanCount", "I", false)
  | 7 => ("FundBook", "balances", "[I", true)
  | 8 => ("FundBook", "replica", "LFundBook$Replica;", true)
  | 9 => ("FundBook", "branchMargins", "[[I", true)
  | 10 => ("FundBook", "productMargins", "[[I", true)
  | 11 => ("FundBook", "treasuryMargins", "[I", true)
  | _ => ("FundBook", "bankInterests", "[I", true)
def tyX2 : Nat → FieldType := fun k => match k with
  | 0 => .array .int
  | 1 => .int
  | 2 => .int
  | 3 => .int
  | 4 => .int
  | 5 => .array (.object "FundBook$Loan")
  | 6 => .int
  | 7 => .array .int
  | 8 => .object "FundBook$Replica"
  | 9 => .array (.array .int)
  | 10 => .array (.array .int)
  | 11 => .array .int
  | _ => .array .int
abbrev wsX20 : List Cond := u_ws RX2 TX2 13
theorem nmX2 : ∀ a, a < 13 → ∀ b, b < 13 → a ≠ b → (TX2 a).2.1 ≠ (TX2 b).2.1 := by decide +kernel
theorem tyX2_ok : ∀ k, k < 13 → parseFieldDescriptor (TX2 k).2.2.1 = some (tyX2 k) := by decide +kernel
abbrev cX2_init : ByteArray := prog_1_method_1_code
def yX2_init : MethodName := ⟨RX2, "<init>", "()V"⟩
abbrev cX2_setCurve : ByteArray := prog_1_method_2_code
def yX2_setCurve : MethodName := ⟨RX2, "setCurve", "(II)I"⟩
abbrev cX2_setRates : ByteArray := prog_1_method_3_code
def yX2_setRates : MethodName := ⟨RX2, "setRates", "(III)V"⟩
abbrev cX2_lend : ByteArray := prog_1_method_4_code
def yX2_lend : MethodName := ⟨RX2, "lend", "(IIIIIZ)I"⟩
abbrev cX2_repay : ByteArray := prog_1_method_5_code
def yX2_repay : MethodName := ⟨RX2, "repay", "(I)I"⟩
abbrev cX2_deposit : ByteArray := prog_1_method_6_code
def yX2_deposit : MethodName := ⟨RX2, "deposit", "(II)I"⟩
abbrev cX2_closeMonth : ByteArray := prog_1_method_7_code
def yX2_closeMonth : MethodName := ⟨RX2, "closeMonth", "()I"⟩
abbrev cX2_month : ByteArray := prog_1_method_8_code
def yX2_month : MethodName := ⟨RX2, "month", "()I"⟩
abbrev cX2_loans : ByteArray := prog_1_method_9_code
def yX2_loans : MethodName := ⟨RX2, "loans", "()I"⟩
abbrev cX2_left : ByteArray := prog_1_method_10_code
def yX2_left : MethodName := ⟨RX2, "left", "(I)I"⟩
abbrev cX2_bears : ByteArray := prog_1_method_11_code
def yX2_bears : MethodName := ⟨RX2, "bears", "(II)I"⟩
abbrev cX2_due : ByteArray := prog_1_method_12_code
def yX2_due : MethodName := ⟨RX2, "due", "(I)I"⟩
abbrev cX2_balance : ByteArray := prog_1_method_13_code
def yX2_balance : MethodName := ⟨RX2, "balance", "(I)I"⟩
abbrev cX2_tranche : ByteArray := prog_1_method_14_code
def yX2_tranche : MethodName := ⟨RX2, "tranche", "(I)I"⟩
abbrev cX2_replicaRate : ByteArray := prog_1_method_15_code
def yX2_replicaRate : MethodName := ⟨RX2, "replicaRate", "()I"⟩
abbrev cX2_margin : ByteArray := prog_1_method_16_code
def yX2_margin : MethodName := ⟨RX2, "margin", "(II)I"⟩
abbrev cX2_byProduct : ByteArray := prog_1_method_17_code
def yX2_byProduct : MethodName := ⟨RX2, "byProduct", "(II)I"⟩
abbrev cX2_treasury : ByteArray := prog_1_method_18_code
def yX2_treasury : MethodName := ⟨RX2, "treasury", "(I)I"⟩
abbrev cX2_interest : ByteArray := prog_1_method_19_code
def yX2_interest : MethodName := ⟨RX2, "interest", "(I)I"⟩
abbrev cX2_hasEnded : ByteArray := prog_1_method_20_code
def yX2_hasEnded : MethodName := ⟨RX2, "hasEnded", "(I)Z"⟩
abbrev cX2_findLoan : ByteArray := prog_1_method_21_code
def yX2_findLoan : MethodName := ⟨RX2, "findLoan", "(I)LFundBook$Loan;"⟩
abbrev cX2_cutIntoParts : ByteArray := prog_1_method_22_code
def yX2_cutIntoParts : MethodName := ⟨RX2, "cutIntoParts", "(III)[I"⟩
abbrev cX2_forOneMonth : ByteArray := prog_1_method_23_code
def yX2_forOneMonth : MethodName := ⟨RX2, "forOneMonth", "(J)I"⟩
abbrev cX2_coreOf : ByteArray := prog_1_method_24_code
def yX2_coreOf : MethodName := ⟨RX2, "coreOf", "(J)I"⟩
abbrev cX2_trancheAmount : ByteArray := prog_1_method_25_code
def yX2_trancheAmount : MethodName := ⟨RX2, "trancheAmount", "()I"⟩
abbrev cX2_reckonLoans : ByteArray := prog_1_method_26_code
def yX2_reckonLoans : MethodName := ⟨RX2, "reckonLoans", "()V"⟩
abbrev cX2_loanMarginsOfBranch : ByteArray := prog_1_method_27_code
def yX2_loanMarginsOfBranch : MethodName := ⟨RX2, "loanMarginsOfBranch", "(I)I"⟩
abbrev cX2_loanMarginsOfProduct : ByteArray := prog_1_method_28_code
def yX2_loanMarginsOfProduct : MethodName := ⟨RX2, "loanMarginsOfProduct", "(I)I"⟩
abbrev cX2_reckonDeposits : ByteArray := prog_1_method_29_code
def yX2_reckonDeposits : MethodName := ⟨RX2, "reckonDeposits", "()V"⟩
abbrev cX2_paidForDeposits : ByteArray := prog_1_method_30_code
def yX2_paidForDeposits : MethodName := ⟨RX2, "paidForDeposits", "(II)I"⟩
abbrev cX2_payParts : ByteArray := prog_1_method_31_code
def yX2_payParts : MethodName := ⟨RX2, "payParts", "()V"⟩
def RX3 : String := "FundBookModel"
def TX3 : u_T := fun k => match k with
  | 0 => ("FundBookModel", "thrown", "I", false)
  | 1 => ("FundBookModel", "now", "I", false)
  | 2 => ("FundBookModel", "curve", "[I", true)
  | 3 => ("FundBookModel", "depositRate", "I", false)
  | 4 => ("FundBookModel", "optionRate", "I", false)
  | 5 => ("FundBookModel", "share", "I", false)
  | 6 => ("FundBookModel", "loans", "I", false)
  | 7 => ("FundBookModel", "branch", "[I", true)
  | 8 => ("FundBookModel", "product", "[I", true)
  | 9 => ("FundBookModel", "customers", "[I", true)
  | 10 => ("FundBookModel", "option", "[I", true)
  | 11 => ("FundBookModel", "hasOption", "[Z", true)
  | 12 => ("FundBookModel", "born", "[I", true)
  | 13 => ("FundBookModel", "part", "[I", true)
  | 14 => ("FundBookModel", "funded", "[I", true)
  | 15 => ("FundBookModel", "balance", "[I", true)
  | 16 => ("FundBookModel", "tranche", "[I", true)
  | 17 => ("FundBookModel", "laidAt", "[I", true)
  | 18 => ("FundBookModel", "margins", "[I", true)
  | 19 => ("FundBookModel", "products", "[I", true)
  | 20 => ("FundBookModel", "treasuries", "[I", true)
  | _ => ("FundBookModel", "interests", "[I", true)
def tyX3 : Nat → FieldType := fun k => match k with
  | 0 => .int
  | 1 => .int
  | 2 => .array .int
  | 3 => .int
  | 4 => .int
  | 5 => .int
  | 6 => .int
  | 7 => .array .int
  | 8 => .array .int
  | 9 => .array .int
  | 10 => .array .int
  | 11 => .array .boolean
  | 12 => .array .int
  | 13 => .array .int
  | 14 => .array .int
  | 15 => .array .int
  | 16 => .array .int
  | 17 => .array .int
  | 18 => .array .int
  | 19 => .array .int
  | 20 => .array .int
  | _ => .array .int
abbrev wsX30 : List Cond := u_ws RX3 TX3 22
theorem nmX3 : ∀ a, a < 22 → ∀ b, b < 22 → a ≠ b → (TX3 a).2.1 ≠ (TX3 b).2.1 := by decide +kernel
theorem tyX3_ok : ∀ k, k < 22 → parseFieldDescriptor (TX3 k).2.2.1 = some (tyX3 k) := by decide +kernel
abbrev cX3_init : ByteArray := prog_5_method_1_code
def yX3_init : MethodName := ⟨RX3, "<init>", "()V"⟩
abbrev cX3_thrown : ByteArray := prog_5_method_2_code
def yX3_thrown : MethodName := ⟨RX3, "thrown", "()I"⟩
abbrev cX3_fails : ByteArray := prog_5_method_3_code
def yX3_fails : MethodName := ⟨RX3, "fails", "(I)I"⟩
abbrev cX3_in : ByteArray := prog_5_method_4_code
def yX3_in : MethodName := ⟨RX3, "in", "(III)Z"⟩
abbrev cX3_isLoan : ByteArray := prog_5_method_5_code
def yX3_isLoan : MethodName := ⟨RX3, "isLoan", "(I)Z"⟩
abbrev cX3_isBranch : ByteArray := prog_5_method_6_code
def yX3_isBranch : MethodName := ⟨RX3, "isBranch", "(I)Z"⟩
abbrev cX3_isEnded : ByteArray := prog_5_method_7_code
def yX3_isEnded : MethodName := ⟨RX3, "isEnded", "(I)Z"⟩
abbrev cX3_setCurve : ByteArray := prog_5_method_8_code
def yX3_setCurve : MethodName := ⟨RX3, "setCurve", "(II)I"⟩
abbrev cX3_setRates : ByteArray := prog_5_method_9_code
def yX3_setRates : MethodName := ⟨RX3, "setRates", "(III)V"⟩
abbrev cX3_leftOf : ByteArray := prog_5_method_10_code
def yX3_leftOf : MethodName := ⟨RX3, "leftOf", "(I)I"⟩
abbrev cX3_bear : ByteArray := prog_5_method_11_code
def yX3_bear : MethodName := ⟨RX3, "bear", "(II)I"⟩
abbrev cX3_lend : ByteArray := prog_5_method_12_code
def yX3_lend : MethodName := ⟨RX3, "lend", "(IIIIIZ)I"⟩
abbrev cX3_repay : ByteArray := prog_5_method_13_code
def yX3_repay : MethodName := ⟨RX3, "repay", "(I)I"⟩
abbrev cX3_core : ByteArray := prog_5_method_14_code
def yX3_core : MethodName := ⟨RX3, "core", "()I"⟩
abbrev cX3_lays : ByteArray := prog_5_method_15_code
def yX3_lays : MethodName := ⟨RX3, "lays", "(I)V"⟩
abbrev cX3_replica : ByteArray := prog_5_method_16_code
def yX3_replica : MethodName := ⟨RX3, "replica", "()I"⟩
abbrev cX3_deposit : ByteArray := prog_5_method_17_code
def yX3_deposit : MethodName := ⟨RX3, "deposit", "(II)I"⟩
abbrev cX3_isPaid : ByteArray := prog_5_method_18_code
def yX3_isPaid : MethodName := ⟨RX3, "isPaid", "(I)I"⟩
abbrev cX3_pays : ByteArray := prog_5_method_19_code
def yX3_pays : MethodName := ⟨RX3, "pays", "(I)I"⟩
abbrev cX3_closeMonth : ByteArray := prog_5_method_20_code
def yX3_closeMonth : MethodName := ⟨RX3, "closeMonth", "()I"⟩
abbrev cX3_month : ByteArray := prog_5_method_21_code
def yX3_month : MethodName := ⟨RX3, "month", "()I"⟩
abbrev cX3_loans : ByteArray := prog_5_method_22_code
def yX3_loans : MethodName := ⟨RX3, "loans", "()I"⟩
abbrev cX3_left : ByteArray := prog_5_method_23_code
def yX3_left : MethodName := ⟨RX3, "left", "(I)I"⟩
abbrev cX3_bears : ByteArray := prog_5_method_24_code
def yX3_bears : MethodName := ⟨RX3, "bears", "(II)I"⟩
abbrev cX3_due : ByteArray := prog_5_method_25_code
def yX3_due : MethodName := ⟨RX3, "due", "(I)I"⟩
abbrev cX3_balance : ByteArray := prog_5_method_26_code
def yX3_balance : MethodName := ⟨RX3, "balance", "(I)I"⟩
abbrev cX3_tranche : ByteArray := prog_5_method_27_code
def yX3_tranche : MethodName := ⟨RX3, "tranche", "(I)I"⟩
abbrev cX3_replicaRate : ByteArray := prog_5_method_28_code
def yX3_replicaRate : MethodName := ⟨RX3, "replicaRate", "()I"⟩
abbrev cX3_margin : ByteArray := prog_5_method_29_code
def yX3_margin : MethodName := ⟨RX3, "margin", "(II)I"⟩
abbrev cX3_byProduct : ByteArray := prog_5_method_30_code
def yX3_byProduct : MethodName := ⟨RX3, "byProduct", "(II)I"⟩
abbrev cX3_treasury : ByteArray := prog_5_method_31_code
def yX3_treasury : MethodName := ⟨RX3, "treasury", "(I)I"⟩
abbrev cX3_interest : ByteArray := prog_5_method_32_code
def yX3_interest : MethodName := ⟨RX3, "interest", "(I)I"⟩
def RJx8e188 : String := "java/lang/Cloneable"
def TJx8e188 : u_T := fun k => match k with
  | _ => ("", "", "", false)
def tyJx8e188 : Nat → FieldType := fun k => match k with
  | _ => .int
abbrev wsJx8e1880 : List Cond := u_ws RJx8e188 TJx8e188 0
theorem nmJx8e188 : ∀ a, a < 0 → ∀ b, b < 0 → a ≠ b → (TJx8e188 a).2.1 ≠ (TJx8e188 b).2.1 := by decide +kernel
theorem tyJx8e188_ok : ∀ k, k < 0 → parseFieldDescriptor (TJx8e188 k).2.2.1 = some (tyJx8e188 k) := by decide +kernel
def RJ0 : String := "java/lang/String"
def TJ0 : u_T := fun k => match k with
  | _ => ("", "", "", false)
def tyJ0 : Nat → FieldType := fun k => match k with
  | _ => .int
abbrev wsJ00 : List Cond := u_ws RJ0 TJ0 0
theorem nmJ0 : ∀ a, a < 0 → ∀ b, b < 0 → a ≠ b → (TJ0 a).2.1 ≠ (TJ0 b).2.1 := by decide +kernel
theorem tyJ0_ok : ∀ k, k < 0 → parseFieldDescriptor (TJ0 k).2.2.1 = some (tyJ0 k) := by decide +kernel
def RL : String := "FundBookLaw"
abbrev cL_setCurve : ByteArray := method_3_code
def yL_setCurve : MethodName := ⟨RL, "setCurve", "(LFundBook;II[J)I"⟩
abbrev cL_setRates : ByteArray := method_4_code
def yL_setRates : MethodName := ⟨RL, "setRates", "(LFundBook;III)I"⟩
abbrev cL_lend : ByteArray := method_5_code
def yL_lend : MethodName := ⟨RL, "lend", "(LFundBook;IIIIIZ[J)I"⟩
abbrev cL_repay : ByteArray := method_6_code
def yL_repay : MethodName := ⟨RL, "repay", "(LFundBook;I[J)I"⟩
abbrev cL_deposit : ByteArray := method_7_code
def yL_deposit : MethodName := ⟨RL, "deposit", "(LFundBook;II[J)I"⟩
abbrev cL_closeMonth : ByteArray := method_8_code
def yL_closeMonth : MethodName := ⟨RL, "closeMonth", "(LFundBook;[J)I"⟩
abbrev cL_left : ByteArray := method_9_code
def yL_left : MethodName := ⟨RL, "left", "(LFundBook;I[J)I"⟩
abbrev cL_bears : ByteArray := method_10_code
def yL_bears : MethodName := ⟨RL, "bears", "(LFundBook;II[J)I"⟩
abbrev cL_due : ByteArray := method_11_code
def yL_due : MethodName := ⟨RL, "due", "(LFundBook;I[J)I"⟩
abbrev cL_balance : ByteArray := method_12_code
def yL_balance : MethodName := ⟨RL, "balance", "(LFundBook;I[J)I"⟩
abbrev cL_tranche : ByteArray := method_13_code
def yL_tranche : MethodName := ⟨RL, "tranche", "(LFundBook;I[J)I"⟩
abbrev cL_margin : ByteArray := method_14_code
def yL_margin : MethodName := ⟨RL, "margin", "(LFundBook;II[J)I"⟩
abbrev cL_byProduct : ByteArray := method_15_code
def yL_byProduct : MethodName := ⟨RL, "byProduct", "(LFundBook;II[J)I"⟩
abbrev cL_treasury : ByteArray := method_16_code
def yL_treasury : MethodName := ⟨RL, "treasury", "(LFundBook;I[J)I"⟩
abbrev cL_interest : ByteArray := method_17_code
def yL_interest : MethodName := ⟨RL, "interest", "(LFundBook;I[J)I"⟩
abbrev cL_law : ByteArray := code
def yL_law : MethodName := ⟨RL, "law", "([I)Z"⟩
def wsX0_init : List Cond := .code yX0_init cX0_init 8 none :: ([.methodLink RX0 3 objectInit, .instanceMethod objectInit, .code objectInit ⟨#[0xb1]⟩ 1 none, .fieldLink RX0 9 "FundBook$Loan" "branch" "I", .fieldLink RX0 15 "FundBook$Loan" "product" "I", .fieldLink RX0 18 "FundBook$Loan" "rate" "I", .fieldLink RX0 21 "FundBook$Loan" "hasOption" "Z", .fieldLink RX0 25 "FundBook$Loan" "optionRate" "I", .fieldLink RX0 28 "FundBook$Loan" "parts" "[I", .fieldLink RX0 32 "FundBook$Loan" "fundingRates" "[I", .fieldLink RX0 35 "FundBook$Loan" "paidParts" "I"] ++ wsX00)
def wsX0_unpaid : List Cond := .code yX0_unpaid cX0_unpaid 3 (some .int) :: ([.fieldLink RX0 35 "FundBook$Loan" "paidParts" "I", .fieldLink RX0 28 "FundBook$Loan" "parts" "[I"] ++ wsX00)
def wsX0_partAhead : List Cond := .code yX0_partAhead cX0_partAhead 3 (some .int) :: ([.fieldLink RX0 35 "FundBook$Loan" "paidParts" "I", .fieldLink RX0 28 "FundBook$Loan" "parts" "[I"] ++ wsX00)
def wsX2_forOneMonth : List Cond := .code yX2_forOneMonth cX2_forOneMonth 2 (some .int) :: ([.constantLong RX2 187 (120000)])
def wsX0_customerInterest : List Cond := .code yX0_customerInterest cX0_customerInterest 1 (some .int) :: ([.fieldLink RX0 18 "FundBook$Loan" "rate" "I", .methodLink RX0 38 yX0_unpaid, .instanceMethod yX0_unpaid, .selects RX0 yX0_unpaid yX0_unpaid, .initialized RX0, .code yX0_unpaid cX0_unpaid 3 (some .int), .fieldLink RX0 35 "FundBook$Loan" "paidParts" "I", .fieldLink RX0 28 "FundBook$Loan" "parts" "[I", .static yX2_forOneMonth, .initialized RX2, .code yX2_forOneMonth cX2_forOneMonth 2 (some .int), .constantLong RX2 187 (120000)] ++ wsX00)
def wsX0_funding : List Cond := .code yX0_funding cX0_funding 4 (some .int) :: ([.fieldLink RX0 35 "FundBook$Loan" "paidParts" "I", .fieldLink RX0 28 "FundBook$Loan" "parts" "[I", .fieldLink RX0 32 "FundBook$Loan" "fundingRates" "[I", .static yX2_forOneMonth, .initialized RX2, .code yX2_forOneMonth cX2_forOneMonth 2 (some .int), .constantLong RX2 187 (120000)] ++ wsX00)
def wsX0_optionCharge : List Cond := .code yX0_optionCharge cX0_optionCharge 1 (some .int) :: ([.fieldLink RX0 25 "FundBook$Loan" "optionRate" "I", .methodLink RX0 38 yX0_unpaid, .instanceMethod yX0_unpaid, .selects RX0 yX0_unpaid yX0_unpaid, .initialized RX0, .code yX0_unpaid cX0_unpaid 3 (some .int), .fieldLink RX0 35 "FundBook$Loan" "paidParts" "I", .fieldLink RX0 28 "FundBook$Loan" "parts" "[I", .static yX2_forOneMonth, .initialized RX2, .code yX2_forOneMonth cX2_forOneMonth 2 (some .int), .constantLong RX2 187 (120000)] ++ wsX00)
def wsX0_ownMargin_r1 : List Cond := [Cond.methodLink RX0 46 yX0_customerInterest, Cond.instanceMethod yX0_customerInterest, Cond.selects RX0 yX0_customerInterest yX0_customerInterest, Cond.initialized RX0, Cond.code yX0_customerInterest cX0_customerInterest 1 (some .int), Cond.fieldLink RX0 18 "FundBook$Loan" "rate" "I", Cond.methodLink RX0 38 yX0_unpaid, Cond.instanceMethod yX0_unpaid, Cond.selects RX0 yX0_unpaid yX0_unpaid, Cond.code yX0_unpaid cX0_unpaid 3 (some .int), Cond.fieldLink RX0 35 "FundBook$Loan" "paidParts" "I", Cond.fieldLink RX0 28 "FundBook$Loan" "parts" "[I", Cond.static yX2_forOneMonth, Cond.initialized RX2, Cond.code yX2_forOneMonth cX2_forOneMonth 2 (some .int), Cond.constantLong RX2 187 (120000), Cond.methodLink RX0 49 yX0_funding, Cond.instanceMethod yX0_funding, Cond.selects RX0 yX0_funding yX0_funding, Cond.code yX0_funding cX0_funding 4 (some .int), Cond.fieldLink RX0 32 "FundBook$Loan" "fundingRates" "[I", Cond.methodLink RX0 52 yX0_optionCharge, Cond.instanceMethod yX0_optionCharge, Cond.selects RX0 yX0_optionCharge yX0_optionCharge]
def wsX0_ownMargin_r2 : List Cond := [Cond.code yX0_optionCharge cX0_optionCharge 1 (some .int), Cond.fieldLink RX0 25 "FundBook$Loan" "optionRate" "I"]
def wsX0_ownMargin : List Cond := .code yX0_ownMargin cX0_ownMargin 1 (some .int) :: ((wsX0_ownMargin_r1 ++ wsX0_ownMargin_r2) ++ wsX00)
def wsX0_payPart : List Cond := .code yX0_payPart cX0_payPart 1 none :: ([.fieldLink RX0 35 "FundBook$Loan" "paidParts" "I"] ++ wsX00)
def wsX0_settle : List Cond := .code yX0_settle cX0_settle 1 none :: ([.fieldLink RX0 35 "FundBook$Loan" "paidParts" "I"] ++ wsX00)
def wsX1_init : List Cond := .code yX1_init cX1_init 1 none :: ([.methodLink RX1 3 objectInit, .instanceMethod objectInit, .code objectInit ⟨#[0xb1]⟩ 1 none, .arrayClass .int, .fieldLink RX1 9 "FundBook$Replica" "amounts" "[I", .fieldLink RX1 15 "FundBook$Replica" "rates" "[I"] ++ wsX10)
def wsX1_lay : List Cond := .code yX1_lay cX1_lay 4 none :: ([.fieldLink RX1 9 "FundBook$Replica" "amounts" "[I", .fieldLink RX1 15 "FundBook$Replica" "rates" "[I"] ++ wsX10)
def wsX1_layAll : List Cond := .code yX1_layAll cX1_layAll 4 none :: ([.methodLink RX1 18 yX1_lay, .instanceMethod yX1_lay, .selects RX1 yX1_lay yX1_lay, .initialized RX1, .code yX1_lay cX1_lay 4 none, .fieldLink RX1 9 "FundBook$Replica" "amounts" "[I", .fieldLink RX1 15 "FundBook$Replica" "rates" "[I"] ++ wsX10)
def wsX1_averageRate : List Cond := .code yX1_averageRate cX1_averageRate 6 (some .int) :: ([.fieldLink RX1 9 "FundBook$Replica" "amounts" "[I", .fieldLink RX1 15 "FundBook$Replica" "rates" "[I"] ++ wsX10)
def wsX2_init_r1 : List Cond := [Cond.methodLink RX2 1 objectInit, Cond.instanceMethod objectInit, Cond.code objectInit ⟨#[0xb1]⟩ 1 none, Cond.arrayClass .int, Cond.fieldLink RX2 9 "FundBook" "curve" "[I", Cond.fieldLink RX2 13 "FundBook" "depositRate" "I", Cond.fieldLink RX2 17 "FundBook" "optionRate" "I", Cond.fieldLink RX2 20 "FundBook" "coreShare" "I", Cond.fieldLink RX2 23 "FundBook" "now" "I", Cond.classLink RX2 26 RX0, Cond.fieldLink RX2 28 "FundBook" "loanRows" "[LFundBook$Loan;", Cond.fieldLink RX2 32 "FundBook" "loanCount" "I", Cond.fieldLink RX2 35 "FundBook" "balances" "[I", Cond.classLink RX2 38 RX1, Cond.instantiable RX1 2, Cond.initialized RX1, Cond.fieldLink RX2 41 "FundBook" "replica" "LFundBook$Replica;", Cond.classLink RX2 45 "[[I", Cond.fieldLink RX2 47 "FundBook" "branchMargins" "[[I", Cond.fieldLink RX2 50 "FundBook" "productMargins" "[[I", Cond.fieldLink RX2 53 "FundBook" "treasuryMargins" "[I", Cond.fieldLink RX2 56 "FundBook" "bankInterests" "[I", Cond.instanceMethod yX1_init, Cond.code yX1_init cX1_init 1 none]
def wsX2_init_r2 : List Cond := [Cond.methodLink RX1 3 objectInit, Cond.fieldLink RX1 9 "FundBook$Replica" "amounts" "[I", Cond.fieldLink RX1 15 "FundBook$Replica" "rates" "[I"]
def wsX2_init : List Cond := .code yX2_init cX2_init 1 none :: ((wsX2_init_r1 ++ wsX2_init_r2) ++ wsX20 ++ wsX10)
def wsX2_setCurve : List Cond := .code yX2_setCurve cX2_setCurve 4 (some .int) :: ([.classLink RX2 59 "java/lang/IndexOutOfBoundsException", .initialized "java/lang/IndexOutOfBoundsException", .classLink RX2 66 "java/lang/IllegalArgumentException", .initialized "java/lang/IllegalArgumentException", .fieldLink RX2 9 "FundBook" "curve" "[I"] ++ wsX20 ++ (vx_atS RX2 63 "java/lang/IndexOutOfBoundsException" ["java/lang/RuntimeException", "java/lang/Exception"]).filter goodWord ++ (vx_atS RX2 70 "java/lang/IllegalArgumentException" ["java/lang/RuntimeException", "java/lang/Exception"]).filter goodWord)
def wsX2_setRates : List Cond := .code yX2_setRates cX2_setRates 4 none :: ([.classLink RX2 66 "java/lang/IllegalArgumentException", .initialized "java/lang/IllegalArgumentException", .fieldLink RX2 13 "FundBook" "depositRate" "I", .fieldLink RX2 17 "FundBook" "optionRate" "I", .fieldLink RX2 20 "FundBook" "coreShare" "I"] ++ wsX20 ++ (vx_atS RX2 70 "java/lang/IllegalArgumentException" ["java/lang/RuntimeException", "java/lang/Exception"]).filter goodWord)
def wsX2_cutIntoParts : List Cond := .code yX2_cutIntoParts cX2_cutIntoParts 5 (some (.array .int)) :: ([.arrayClass .int])
def wsX2_lend_r1 : List Cond := [Cond.classLink RX2 59 "java/lang/IndexOutOfBoundsException", Cond.initialized "java/lang/IndexOutOfBoundsException", Cond.classLink RX2 66 "java/lang/IllegalArgumentException", Cond.initialized "java/lang/IllegalArgumentException", Cond.classLink RX2 84 "java/lang/IllegalStateException", Cond.initialized "java/lang/IllegalStateException", Cond.constant RX2 79 (10000000), Cond.fieldLink RX2 32 "FundBook" "loanCount" "I", Cond.fieldLink RX2 17 "FundBook" "optionRate" "I", Cond.fieldLink RX2 28 "FundBook" "loanRows" "[LFundBook$Loan;", Cond.classLink RX2 26 RX0, Cond.instantiable RX0 8, Cond.initialized RX0, Cond.fieldLink RX2 9 "FundBook" "curve" "[I", Cond.methodLink RX2 93 ⟨"[I", "clone", "()Ljava/lang/Object;"⟩, Cond.sameMethod "[I" "java/lang/Object" "clone" "()Ljava/lang/Object;", Cond.native ⟨"java/lang/Object", "clone", "()Ljava/lang/Object;"⟩, Cond.instanceMethod ⟨"java/lang/Object", "clone", "()Ljava/lang/Object;"⟩, Cond.selects "[I" ⟨"[I", "clone", "()Ljava/lang/Object;"⟩ ⟨"java/lang/Object", "clone", "()Ljava/lang/Object;"⟩, Cond.classLink RX2 94 "[I", Cond.methodLink RX2 89 yX2_cutIntoParts, Cond.static yX2_cutIntoParts, Cond.initialized RX2, Cond.code yX2_cutIntoParts cX2_cutIntoParts 5 (some (.array .int))]
def wsX2_lend_r2 : List Cond := [Cond.arrayClass .int, Cond.instanceMethod yX0_init, Cond.code yX0_init cX0_init 8 none, Cond.methodLink RX0 3 objectInit, Cond.instanceMethod objectInit, Cond.code objectInit ⟨#[0xb1]⟩ 1 none, Cond.fieldLink RX0 9 "FundBook$Loan" "branch" "I", Cond.fieldLink RX0 15 "FundBook$Loan" "product" "I", Cond.fieldLink RX0 18 "FundBook$Loan" "rate" "I", Cond.fieldLink RX0 21 "FundBook$Loan" "hasOption" "Z", Cond.fieldLink RX0 25 "FundBook$Loan" "optionRate" "I", Cond.fieldLink RX0 28 "FundBook$Loan" "parts" "[I", Cond.fieldLink RX0 32 "FundBook$Loan" "fundingRates" "[I", Cond.fieldLink RX0 35 "FundBook$Loan" "paidParts" "I"]
def wsX2_lend : List Cond := .code yX2_lend cX2_lend 10 (some .int) :: ((wsX2_lend_r1 ++ wsX2_lend_r2) ++ wsX20 ++ wsX00 ++ (vx_atS RX2 63 "java/lang/IndexOutOfBoundsException" ["java/lang/RuntimeException", "java/lang/Exception"]).filter goodWord ++ (vx_atS RX2 70 "java/lang/IllegalArgumentException" ["java/lang/RuntimeException", "java/lang/Exception"]).filter goodWord ++ (vx_atS RX2 88 "java/lang/IllegalStateException" ["java/lang/RuntimeException", "java/lang/Exception"]).filter goodWord)
def wsX2_findLoan : List Cond := .code yX2_findLoan cX2_findLoan 2 (some (.object "FundBook$Loan")) :: ([.fieldLink RX2 28 "FundBook" "loanRows" "[LFundBook$Loan;"] ++ wsX20)
def wsX2_repay : List Cond := .code yX2_repay cX2_repay 4 (some .int) :: ([.classLink RX2 59 "java/lang/IndexOutOfBoundsException", .initialized "java/lang/IndexOutOfBoundsException", .classLink RX2 84 "java/lang/IllegalStateException", .initialized "java/lang/IllegalStateException", .methodLink RX2 101 yX2_findLoan, .instanceMethod yX2_findLoan, .selects RX2 yX2_findLoan yX2_findLoan, .initialized RX2, .code yX2_findLoan cX2_findLoan 2 (some (.object "FundBook$Loan")), .fieldLink RX2 28 "FundBook" "loanRows" "[LFundBook$Loan;", .instanceMethod yX0_unpaid, .initialized RX0, .selects RX0 yX0_unpaid yX0_unpaid, .code yX0_unpaid cX0_unpaid 3 (some .int), .fieldLink RX0 35 "FundBook$Loan" "paidParts" "I", .fieldLink RX0 28 "FundBook$Loan" "parts" "[I", .instanceMethod yX0_settle, .selects RX0 yX0_settle yX0_settle, .code yX0_settle cX0_settle 1 none] ++ wsX00 ++ wsX20 ++ (vx_atS RX2 63 "java/lang/IndexOutOfBoundsException" ["java/lang/RuntimeException", "java/lang/Exception"]).filter goodWord ++ (vx_atS RX2 88 "java/lang/IllegalStateException" ["java/lang/RuntimeException", "java/lang/Exception"]).filter goodWord)
def wsX2_coreOf : List Cond := .code yX2_coreOf cX2_coreOf 3 (some .int) :: ([.fieldLink RX2 20 "FundBook" "coreShare" "I", .constantLong RX2 189 (100)] ++ wsX20)
def wsX2_trancheAmount : List Cond := .code yX2_trancheAmount cX2_trancheAmount 7 (some .int) :: ([.fieldLink RX2 35 "FundBook" "balances" "[I", .methodLink RX2 191 yX2_coreOf, .instanceMethod yX2_coreOf, .selects RX2 yX2_coreOf yX2_coreOf, .initialized RX2, .code yX2_coreOf cX2_coreOf 3 (some .int), .fieldLink RX2 20 "FundBook" "coreShare" "I", .constantLong RX2 189 (100)] ++ wsX20)
def wsX2_deposit_r1 : List Cond := [Cond.classLink RX2 59 "java/lang/IndexOutOfBoundsException", Cond.initialized "java/lang/IndexOutOfBoundsException", Cond.classLink RX2 66 "java/lang/IllegalArgumentException", Cond.initialized "java/lang/IllegalArgumentException", Cond.classLink RX2 84 "java/lang/IllegalStateException", Cond.initialized "java/lang/IllegalStateException", Cond.constant RX2 122 (-10000000), Cond.constant RX2 79 (10000000), Cond.fieldLink RX2 35 "FundBook" "balances" "[I", Cond.fieldLink RX2 23 "FundBook" "now" "I", Cond.fieldLink RX2 41 "FundBook" "replica" "LFundBook$Replica;", Cond.fieldLink RX2 9 "FundBook" "curve" "[I", Cond.methodLink RX2 127 yX2_trancheAmount, Cond.instanceMethod yX2_trancheAmount, Cond.selects RX2 yX2_trancheAmount yX2_trancheAmount, Cond.initialized RX2, Cond.code yX2_trancheAmount cX2_trancheAmount 7 (some .int), Cond.methodLink RX2 191 yX2_coreOf, Cond.instanceMethod yX2_coreOf, Cond.selects RX2 yX2_coreOf yX2_coreOf, Cond.code yX2_coreOf cX2_coreOf 3 (some .int), Cond.fieldLink RX2 20 "FundBook" "coreShare" "I", Cond.constantLong RX2 189 (100), Cond.instanceMethod yX1_layAll]
def wsX2_deposit_r2 : List Cond := [Cond.initialized RX1, Cond.selects RX1 yX1_layAll yX1_layAll, Cond.code yX1_layAll cX1_layAll 4 none, Cond.methodLink RX1 18 yX1_lay, Cond.instanceMethod yX1_lay, Cond.selects RX1 yX1_lay yX1_lay, Cond.code yX1_lay cX1_lay 4 none, Cond.fieldLink RX1 9 "FundBook$Replica" "amounts" "[I", Cond.fieldLink RX1 15 "FundBook$Replica" "rates" "[I"]
def wsX2_deposit : List Cond := .code yX2_deposit cX2_deposit 4 (some .int) :: ((wsX2_deposit_r1 ++ wsX2_deposit_r2) ++ wsX20 ++ wsX10 ++ (vx_atS RX2 63 "java/lang/IndexOutOfBoundsException" ["java/lang/RuntimeException", "java/lang/Exception"]).filter goodWord ++ (vx_atS RX2 70 "java/lang/IllegalArgumentException" ["java/lang/RuntimeException", "java/lang/Exception"]).filter goodWord ++ (vx_atS RX2 88 "java/lang/IllegalStateException" ["java/lang/RuntimeException", "java/lang/Exception"]).filter goodWord)
def wsX2_loanMarginsOfBranch_r1 : List Cond := [Cond.fieldLink RX2 28 "FundBook" "loanRows" "[LFundBook$Loan;", Cond.instanceMethod yX0_ownMargin, Cond.initialized RX0, Cond.selects RX0 yX0_ownMargin yX0_ownMargin, Cond.code yX0_ownMargin cX0_ownMargin 1 (some .int), Cond.methodLink RX0 46 yX0_customerInterest, Cond.instanceMethod yX0_customerInterest, Cond.selects RX0 yX0_customerInterest yX0_customerInterest, Cond.code yX0_customerInterest cX0_customerInterest 1 (some .int), Cond.fieldLink RX0 18 "FundBook$Loan" "rate" "I", Cond.methodLink RX0 38 yX0_unpaid, Cond.instanceMethod yX0_unpaid, Cond.selects RX0 yX0_unpaid yX0_unpaid, Cond.code yX0_unpaid cX0_unpaid 3 (some .int), Cond.fieldLink RX0 35 "FundBook$Loan" "paidParts" "I", Cond.fieldLink RX0 28 "FundBook$Loan" "parts" "[I", Cond.static yX2_forOneMonth, Cond.initialized RX2, Cond.code yX2_forOneMonth cX2_forOneMonth 2 (some .int), Cond.constantLong RX2 187 (120000), Cond.methodLink RX0 49 yX0_funding, Cond.instanceMethod yX0_funding, Cond.selects RX0 yX0_funding yX0_funding, Cond.code yX0_funding cX0_funding 4 (some .int)]
def wsX2_loanMarginsOfBranch_r2 : List Cond := [Cond.fieldLink RX0 32 "FundBook$Loan" "fundingRates" "[I", Cond.methodLink RX0 52 yX0_optionCharge, Cond.instanceMethod yX0_optionCharge, Cond.selects RX0 yX0_optionCharge yX0_optionCharge, Cond.code yX0_optionCharge cX0_optionCharge 1 (some .int), Cond.fieldLink RX0 25 "FundBook$Loan" "optionRate" "I"]
def wsX2_loanMarginsOfBranch : List Cond := .code yX2_loanMarginsOfBranch cX2_loanMarginsOfBranch 7 (some .int) :: ((wsX2_loanMarginsOfBranch_r1 ++ wsX2_loanMarginsOfBranch_r2) ++ wsX20 ++ wsX00)
def wsX2_loanMarginsOfProduct_r1 : List Cond := [Cond.fieldLink RX2 28 "FundBook" "loanRows" "[LFundBook$Loan;", Cond.instanceMethod yX0_ownMargin, Cond.initialized RX0, Cond.selects RX0 yX0_ownMargin yX0_ownMargin, Cond.code yX0_ownMargin cX0_ownMargin 1 (some .int), Cond.methodLink RX0 46 yX0_customerInterest, Cond.instanceMethod yX0_customerInterest, Cond.selects RX0 yX0_customerInterest yX0_customerInterest, Cond.code yX0_customerInterest cX0_customerInterest 1 (some .int), Cond.fieldLink RX0 18 "FundBook$Loan" "rate" "I", Cond.methodLink RX0 38 yX0_unpaid, Cond.instanceMethod yX0_unpaid, Cond.selects RX0 yX0_unpaid yX0_unpaid, Cond.code yX0_unpaid cX0_unpaid 3 (some .int), Cond.fieldLink RX0 35 "FundBook$Loan" "paidParts" "I", Cond.fieldLink RX0 28 "FundBook$Loan" "parts" "[I", Cond.static yX2_forOneMonth, Cond.initialized RX2, Cond.code yX2_forOneMonth cX2_forOneMonth 2 (some .int), Cond.constantLong RX2 187 (120000), Cond.methodLink RX0 49 yX0_funding, Cond.instanceMethod yX0_funding, Cond.selects RX0 yX0_funding yX0_funding, Cond.code yX0_funding cX0_funding 4 (some .int)]
def wsX2_loanMarginsOfProduct_r2 : List Cond := [Cond.fieldLink RX0 32 "FundBook$Loan" "fundingRates" "[I", Cond.methodLink RX0 52 yX0_optionCharge, Cond.instanceMethod yX0_optionCharge, Cond.selects RX0 yX0_optionCharge yX0_optionCharge, Cond.code yX0_optionCharge cX0_optionCharge 1 (some .int), Cond.fieldLink RX0 25 "FundBook$Loan" "optionRate" "I"]
def wsX2_loanMarginsOfProduct : List Cond := .code yX2_loanMarginsOfProduct cX2_loanMarginsOfProduct 7 (some .int) :: ((wsX2_loanMarginsOfProduct_r1 ++ wsX2_loanMarginsOfProduct_r2) ++ wsX20 ++ wsX00)
def wsX2_reckonLoans_r1 : List Cond := [Cond.fieldLink RX2 47 "FundBook" "branchMargins" "[[I", Cond.fieldLink RX2 23 "FundBook" "now" "I", Cond.fieldLink RX2 50 "FundBook" "productMargins" "[[I", Cond.fieldLink RX2 28 "FundBook" "loanRows" "[LFundBook$Loan;", Cond.fieldLink RX2 53 "FundBook" "treasuryMargins" "[I", Cond.fieldLink RX2 56 "FundBook" "bankInterests" "[I", Cond.methodLink RX2 195 yX2_loanMarginsOfBranch, Cond.instanceMethod yX2_loanMarginsOfBranch, Cond.selects RX2 yX2_loanMarginsOfBranch yX2_loanMarginsOfBranch, Cond.initialized RX2, Cond.code yX2_loanMarginsOfBranch cX2_loanMarginsOfBranch 7 (some .int), Cond.instanceMethod yX0_ownMargin, Cond.initialized RX0, Cond.selects RX0 yX0_ownMargin yX0_ownMargin, Cond.code yX0_ownMargin cX0_ownMargin 1 (some .int), Cond.methodLink RX0 46 yX0_customerInterest, Cond.instanceMethod yX0_customerInterest, Cond.selects RX0 yX0_customerInterest yX0_customerInterest, Cond.code yX0_customerInterest cX0_customerInterest 1 (some .int), Cond.fieldLink RX0 18 "FundBook$Loan" "rate" "I", Cond.methodLink RX0 38 yX0_unpaid, Cond.instanceMethod yX0_unpaid, Cond.selects RX0 yX0_unpaid yX0_unpaid, Cond.code yX0_unpaid cX0_unpaid 3 (some .int)]
def wsX2_reckonLoans_r2 : List Cond := [Cond.fieldLink RX0 35 "FundBook$Loan" "paidParts" "I", Cond.fieldLink RX0 28 "FundBook$Loan" "parts" "[I", Cond.static yX2_forOneMonth, Cond.code yX2_forOneMonth cX2_forOneMonth 2 (some .int), Cond.constantLong RX2 187 (120000), Cond.methodLink RX0 49 yX0_funding, Cond.instanceMethod yX0_funding, Cond.selects RX0 yX0_funding yX0_funding, Cond.code yX0_funding cX0_funding 4 (some .int), Cond.fieldLink RX0 32 "FundBook$Loan" "fundingRates" "[I", Cond.methodLink RX0 52 yX0_optionCharge, Cond.instanceMethod yX0_optionCharge, Cond.selects RX0 yX0_optionCharge yX0_optionCharge, Cond.code yX0_optionCharge cX0_optionCharge 1 (some .int), Cond.fieldLink RX0 25 "FundBook$Loan" "optionRate" "I", Cond.methodLink RX2 198 yX2_loanMarginsOfProduct, Cond.instanceMethod yX2_loanMarginsOfProduct, Cond.selects RX2 yX2_loanMarginsOfProduct yX2_loanMarginsOfProduct, Cond.code yX2_loanMarginsOfProduct cX2_loanMarginsOfProduct 7 (some .int)]
def wsX2_reckonLoans : List Cond := .code yX2_reckonLoans cX2_reckonLoans 7 none :: ((wsX2_reckonLoans_r1 ++ wsX2_reckonLoans_r2) ++ wsX20 ++ wsX00)
def wsX2_paidForDeposits : List Cond := .code yX2_paidForDeposits cX2_paidForDeposits 5 (some .int) :: ([.fieldLink RX2 9 "FundBook" "curve" "[I", .methodLink RX2 191 yX2_coreOf, .instanceMethod yX2_coreOf, .selects RX2 yX2_coreOf yX2_coreOf, .initialized RX2, .code yX2_coreOf cX2_coreOf 3 (some .int), .fieldLink RX2 20 "FundBook" "coreShare" "I", .constantLong RX2 189 (100), .methodLink RX2 211 yX2_forOneMonth, .static yX2_forOneMonth, .code yX2_forOneMonth cX2_forOneMonth 2 (some .int), .constantLong RX2 187 (120000)] ++ wsX20)
def wsX2_reckonDeposits_r1 : List Cond := [Cond.fieldLink RX2 41 "FundBook" "replica" "LFundBook$Replica;", Cond.fieldLink RX2 35 "FundBook" "balances" "[I", Cond.fieldLink RX2 13 "FundBook" "depositRate" "I", Cond.fieldLink RX2 47 "FundBook" "branchMargins" "[[I", Cond.fieldLink RX2 23 "FundBook" "now" "I", Cond.fieldLink RX2 53 "FundBook" "treasuryMargins" "[I", Cond.fieldLink RX2 56 "FundBook" "bankInterests" "[I", Cond.instanceMethod yX1_averageRate, Cond.initialized RX1, Cond.selects RX1 yX1_averageRate yX1_averageRate, Cond.code yX1_averageRate cX1_averageRate 6 (some .int), Cond.fieldLink RX1 9 "FundBook$Replica" "amounts" "[I", Cond.fieldLink RX1 15 "FundBook$Replica" "rates" "[I", Cond.methodLink RX2 207 yX2_paidForDeposits, Cond.instanceMethod yX2_paidForDeposits, Cond.selects RX2 yX2_paidForDeposits yX2_paidForDeposits, Cond.initialized RX2, Cond.code yX2_paidForDeposits cX2_paidForDeposits 5 (some .int), Cond.fieldLink RX2 9 "FundBook" "curve" "[I", Cond.methodLink RX2 191 yX2_coreOf, Cond.instanceMethod yX2_coreOf, Cond.selects RX2 yX2_coreOf yX2_coreOf, Cond.code yX2_coreOf cX2_coreOf 3 (some .int), Cond.fieldLink RX2 20 "FundBook" "coreShare" "I"]
def wsX2_reckonDeposits_r2 : List Cond := [Cond.constantLong RX2 189 (100), Cond.methodLink RX2 211 yX2_forOneMonth, Cond.static yX2_forOneMonth, Cond.code yX2_forOneMonth cX2_forOneMonth 2 (some .int), Cond.constantLong RX2 187 (120000)]
def wsX2_reckonDeposits : List Cond := .code yX2_reckonDeposits cX2_reckonDeposits 5 none :: ((wsX2_reckonDeposits_r1 ++ wsX2_reckonDeposits_r2) ++ wsX20 ++ wsX10)
def wsX2_payParts : List Cond := .code yX2_payParts cX2_payParts 5 none :: ([.fieldLink RX2 28 "FundBook" "loanRows" "[LFundBook$Loan;", .instanceMethod yX0_payPart, .initialized RX0, .selects RX0 yX0_payPart yX0_payPart, .code yX0_payPart cX0_payPart 1 none, .fieldLink RX0 35 "FundBook$Loan" "paidParts" "I"] ++ wsX20 ++ wsX00)
def wsX2_closeMonth_r1 : List Cond := [Cond.classLink RX2 84 "java/lang/IllegalStateException", Cond.initialized "java/lang/IllegalStateException", Cond.fieldLink RX2 23 "FundBook" "now" "I", Cond.fieldLink RX2 41 "FundBook" "replica" "LFundBook$Replica;", Cond.fieldLink RX2 9 "FundBook" "curve" "[I", Cond.methodLink RX2 136 yX2_reckonLoans, Cond.instanceMethod yX2_reckonLoans, Cond.selects RX2 yX2_reckonLoans yX2_reckonLoans, Cond.initialized RX2, Cond.code yX2_reckonLoans cX2_reckonLoans 7 none, Cond.fieldLink RX2 47 "FundBook" "branchMargins" "[[I", Cond.fieldLink RX2 50 "FundBook" "productMargins" "[[I", Cond.fieldLink RX2 28 "FundBook" "loanRows" "[LFundBook$Loan;", Cond.fieldLink RX2 53 "FundBook" "treasuryMargins" "[I", Cond.fieldLink RX2 56 "FundBook" "bankInterests" "[I", Cond.methodLink RX2 195 yX2_loanMarginsOfBranch, Cond.instanceMethod yX2_loanMarginsOfBranch, Cond.selects RX2 yX2_loanMarginsOfBranch yX2_loanMarginsOfBranch, Cond.code yX2_loanMarginsOfBranch cX2_loanMarginsOfBranch 7 (some .int), Cond.instanceMethod yX0_ownMargin, Cond.initialized RX0, Cond.selects RX0 yX0_ownMargin yX0_ownMargin, Cond.code yX0_ownMargin cX0_ownMargin 1 (some .int), Cond.methodLink RX0 46 yX0_customerInterest]
def wsX2_closeMonth_r2 : List Cond := [Cond.instanceMethod yX0_customerInterest, Cond.selects RX0 yX0_customerInterest yX0_customerInterest, Cond.code yX0_customerInterest cX0_customerInterest 1 (some .int), Cond.fieldLink RX0 18 "FundBook$Loan" "rate" "I", Cond.methodLink RX0 38 yX0_unpaid, Cond.instanceMethod yX0_unpaid, Cond.selects RX0 yX0_unpaid yX0_unpaid, Cond.code yX0_unpaid cX0_unpaid 3 (some .int), Cond.fieldLink RX0 35 "FundBook$Loan" "paidParts" "I", Cond.fieldLink RX0 28 "FundBook$Loan" "parts" "[I", Cond.static yX2_forOneMonth, Cond.code yX2_forOneMonth cX2_forOneMonth 2 (some .int), Cond.constantLong RX2 187 (120000), Cond.methodLink RX0 49 yX0_funding, Cond.instanceMethod yX0_funding, Cond.selects RX0 yX0_funding yX0_funding, Cond.code yX0_funding cX0_funding 4 (some .int), Cond.fieldLink RX0 32 "FundBook$Loan" "fundingRates" "[I", Cond.methodLink RX0 52 yX0_optionCharge, Cond.instanceMethod yX0_optionCharge, Cond.selects RX0 yX0_optionCharge yX0_optionCharge, Cond.code yX0_optionCharge cX0_optionCharge 1 (some .int), Cond.fieldLink RX0 25 "FundBook$Loan" "optionRate" "I", Cond.methodLink RX2 198 yX2_loanMarginsOfProduct]
def wsX2_closeMonth_r3 : List Cond := [Cond.instanceMethod yX2_loanMarginsOfProduct, Cond.selects RX2 yX2_loanMarginsOfProduct yX2_loanMarginsOfProduct, Cond.code yX2_loanMarginsOfProduct cX2_loanMarginsOfProduct 7 (some .int), Cond.methodLink RX2 139 yX2_reckonDeposits, Cond.instanceMethod yX2_reckonDeposits, Cond.selects RX2 yX2_reckonDeposits yX2_reckonDeposits, Cond.code yX2_reckonDeposits cX2_reckonDeposits 5 none, Cond.fieldLink RX2 35 "FundBook" "balances" "[I", Cond.fieldLink RX2 13 "FundBook" "depositRate" "I", Cond.instanceMethod yX1_averageRate, Cond.initialized RX1, Cond.selects RX1 yX1_averageRate yX1_averageRate, Cond.code yX1_averageRate cX1_averageRate 6 (some .int), Cond.fieldLink RX1 9 "FundBook$Replica" "amounts" "[I", Cond.fieldLink RX1 15 "FundBook$Replica" "rates" "[I", Cond.methodLink RX2 207 yX2_paidForDeposits, Cond.instanceMethod yX2_paidForDeposits, Cond.selects RX2 yX2_paidForDeposits yX2_paidForDeposits, Cond.code yX2_paidForDeposits cX2_paidForDeposits 5 (some .int), Cond.methodLink RX2 191 yX2_coreOf, Cond.instanceMethod yX2_coreOf, Cond.selects RX2 yX2_coreOf yX2_coreOf, Cond.code yX2_coreOf cX2_coreOf 3 (some .int), Cond.fieldLink RX2 20 "FundBook" "coreShare" "I"]
def wsX2_closeMonth_r4 : List Cond := [Cond.constantLong RX2 189 (100), Cond.methodLink RX2 211 yX2_forOneMonth, Cond.methodLink RX2 142 yX2_payParts, Cond.instanceMethod yX2_payParts, Cond.selects RX2 yX2_payParts yX2_payParts, Cond.code yX2_payParts cX2_payParts 5 none, Cond.instanceMethod yX0_payPart, Cond.selects RX0 yX0_payPart yX0_payPart, Cond.code yX0_payPart cX0_payPart 1 none, Cond.methodLink RX2 127 yX2_trancheAmount, Cond.instanceMethod yX2_trancheAmount, Cond.selects RX2 yX2_trancheAmount yX2_trancheAmount, Cond.code yX2_trancheAmount cX2_trancheAmount 7 (some .int), Cond.instanceMethod yX1_lay, Cond.selects RX1 yX1_lay yX1_lay, Cond.code yX1_lay cX1_lay 4 none]
def wsX2_closeMonth : List Cond := .code yX2_closeMonth cX2_closeMonth 1 (some .int) :: ((wsX2_closeMonth_r1 ++ (wsX2_closeMonth_r2 ++ (wsX2_closeMonth_r3 ++ wsX2_closeMonth_r4))) ++ wsX20 ++ wsX00 ++ wsX10 ++ (vx_atS RX2 88 "java/lang/IllegalStateException" ["java/lang/RuntimeException", "java/lang/Exception"]).filter goodWord)
def wsX2_month : List Cond := .code yX2_month cX2_month 1 (some .int) :: ([.fieldLink RX2 23 "FundBook" "now" "I"] ++ wsX20)
def wsX2_loans : List Cond := .code yX2_loans cX2_loans 1 (some .int) :: ([.fieldLink RX2 32 "FundBook" "loanCount" "I"] ++ wsX20)
def wsX2_left : List Cond := .code yX2_left cX2_left 3 (some .int) :: ([.classLink RX2 59 "java/lang/IndexOutOfBoundsException", .initialized "java/lang/IndexOutOfBoundsException", .methodLink RX2 101 yX2_findLoan, .instanceMethod yX2_findLoan, .selects RX2 yX2_findLoan yX2_findLoan, .initialized RX2, .code yX2_findLoan cX2_findLoan 2 (some (.object "FundBook$Loan")), .fieldLink RX2 28 "FundBook" "loanRows" "[LFundBook$Loan;", .instanceMethod yX0_unpaid, .initialized RX0, .selects RX0 yX0_unpaid yX0_unpaid, .code yX0_unpaid cX0_unpaid 3 (some .int), .fieldLink RX0 35 "FundBook$Loan" "paidParts" "I", .fieldLink RX0 28 "FundBook$Loan" "parts" "[I"] ++ wsX20 ++ wsX00 ++ (vx_atS RX2 63 "java/lang/IndexOutOfBoundsException" ["java/lang/RuntimeException", "java/lang/Exception"]).filter goodWord)
def wsX2_bears_r1 : List Cond := [Cond.classLink RX2 59 "java/lang/IndexOutOfBoundsException", Cond.initialized "java/lang/IndexOutOfBoundsException", Cond.classLink RX2 66 "java/lang/IllegalArgumentException", Cond.initialized "java/lang/IllegalArgumentException", Cond.methodLink RX2 101 yX2_findLoan, Cond.instanceMethod yX2_findLoan, Cond.selects RX2 yX2_findLoan yX2_findLoan, Cond.initialized RX2, Cond.code yX2_findLoan cX2_findLoan 2 (some (.object "FundBook$Loan")), Cond.fieldLink RX2 28 "FundBook" "loanRows" "[LFundBook$Loan;", Cond.instanceMethod yX0_customerInterest, Cond.initialized RX0, Cond.selects RX0 yX0_customerInterest yX0_customerInterest, Cond.code yX0_customerInterest cX0_customerInterest 1 (some .int), Cond.fieldLink RX0 18 "FundBook$Loan" "rate" "I", Cond.methodLink RX0 38 yX0_unpaid, Cond.instanceMethod yX0_unpaid, Cond.selects RX0 yX0_unpaid yX0_unpaid, Cond.code yX0_unpaid cX0_unpaid 3 (some .int), Cond.fieldLink RX0 35 "FundBook$Loan" "paidParts" "I", Cond.fieldLink RX0 28 "FundBook$Loan" "parts" "[I", Cond.static yX2_forOneMonth, Cond.code yX2_forOneMonth cX2_forOneMonth 2 (some .int), Cond.constantLong RX2 187 (120000)]
def wsX2_bears_r2 : List Cond := [Cond.instanceMethod yX0_funding, Cond.selects RX0 yX0_funding yX0_funding, Cond.code yX0_funding cX0_funding 4 (some .int), Cond.fieldLink RX0 32 "FundBook$Loan" "fundingRates" "[I", Cond.instanceMethod yX0_optionCharge, Cond.selects RX0 yX0_optionCharge yX0_optionCharge, Cond.code yX0_optionCharge cX0_optionCharge 1 (some .int), Cond.fieldLink RX0 25 "FundBook$Loan" "optionRate" "I", Cond.instanceMethod yX0_ownMargin, Cond.selects RX0 yX0_ownMargin yX0_ownMargin, Cond.code yX0_ownMargin cX0_ownMargin 1 (some .int), Cond.methodLink RX0 46 yX0_customerInterest, Cond.methodLink RX0 49 yX0_funding, Cond.methodLink RX0 52 yX0_optionCharge]
def wsX2_bears : List Cond := .code yX2_bears cX2_bears 4 (some .int) :: ((wsX2_bears_r1 ++ wsX2_bears_r2) ++ wsX20 ++ wsX00 ++ (vx_atS RX2 63 "java/lang/IndexOutOfBoundsException" ["java/lang/RuntimeException", "java/lang/Exception"]).filter goodWord ++ (vx_atS RX2 70 "java/lang/IllegalArgumentException" ["java/lang/RuntimeException", "java/lang/Exception"]).filter goodWord)
def wsX2_due : List Cond := .code yX2_due cX2_due 7 (some .int) :: ([.classLink RX2 66 "java/lang/IllegalArgumentException", .initialized "java/lang/IllegalArgumentException", .fieldLink RX2 28 "FundBook" "loanRows" "[LFundBook$Loan;", .instanceMethod yX0_partAhead, .initialized RX0, .selects RX0 yX0_partAhead yX0_partAhead, .code yX0_partAhead cX0_partAhead 3 (some .int), .fieldLink RX0 35 "FundBook$Loan" "paidParts" "I", .fieldLink RX0 28 "FundBook$Loan" "parts" "[I"] ++ wsX20 ++ wsX00 ++ (vx_atS RX2 70 "java/lang/IllegalArgumentException" ["java/lang/RuntimeException", "java/lang/Exception"]).filter goodWord)
def wsX2_balance : List Cond := .code yX2_balance cX2_balance 2 (some .int) :: ([.classLink RX2 59 "java/lang/IndexOutOfBoundsException", .initialized "java/lang/IndexOutOfBoundsException", .fieldLink RX2 35 "FundBook" "balances" "[I"] ++ wsX20 ++ (vx_atS RX2 63 "java/lang/IndexOutOfBoundsException" ["java/lang/RuntimeException", "java/lang/Exception"]).filter goodWord)
def wsX2_tranche : List Cond := .code yX2_tranche cX2_tranche 2 (some .int) :: ([.classLink RX2 59 "java/lang/IndexOutOfBoundsException", .initialized "java/lang/IndexOutOfBoundsException", .fieldLink RX2 41 "FundBook" "replica" "LFundBook$Replica;"] ++ wsX20 ++ wsX10 ++ (vx_atS RX2 63 "java/lang/IndexOutOfBoundsException" ["java/lang/RuntimeException", "java/lang/Exception"]).filter goodWord)
def wsX2_replicaRate : List Cond := .code yX2_replicaRate cX2_replicaRate 1 (some .int) :: ([.fieldLink RX2 41 "FundBook" "replica" "LFundBook$Replica;", .instanceMethod yX1_averageRate, .initialized RX1, .selects RX1 yX1_averageRate yX1_averageRate, .code yX1_averageRate cX1_averageRate 6 (some .int), .fieldLink RX1 9 "FundBook$Replica" "amounts" "[I", .fieldLink RX1 15 "FundBook$Replica" "rates" "[I"] ++ wsX20 ++ wsX10)
def wsX2_hasEnded : List Cond := .code yX2_hasEnded cX2_hasEnded 2 (some .boolean) :: ([.fieldLink RX2 23 "FundBook" "now" "I"] ++ wsX20)
def wsX2_margin : List Cond := .code yX2_margin cX2_margin 3 (some .int) :: ([.classLink RX2 59 "java/lang/IndexOutOfBoundsException", .initialized "java/lang/IndexOutOfBoundsException", .fieldLink RX2 47 "FundBook" "branchMargins" "[[I", .methodLink RX2 177 yX2_hasEnded, .instanceMethod yX2_hasEnded, .selects RX2 yX2_hasEnded yX2_hasEnded, .initialized RX2, .code yX2_hasEnded cX2_hasEnded 2 (some .boolean), .fieldLink RX2 23 "FundBook" "now" "I"] ++ wsX20 ++ (vx_atS RX2 63 "java/lang/IndexOutOfBoundsException" ["java/lang/RuntimeException", "java/lang/Exception"]).filter goodWord)
def wsX2_byProduct : List Cond := .code yX2_byProduct cX2_byProduct 3 (some .int) :: ([.classLink RX2 59 "java/lang/IndexOutOfBoundsException", .initialized "java/lang/IndexOutOfBoundsException", .fieldLink RX2 50 "FundBook" "productMargins" "[[I", .methodLink RX2 177 yX2_hasEnded, .instanceMethod yX2_hasEnded, .selects RX2 yX2_hasEnded yX2_hasEnded, .initialized RX2, .code yX2_hasEnded cX2_hasEnded 2 (some .boolean), .fieldLink RX2 23 "FundBook" "now" "I"] ++ wsX20 ++ (vx_atS RX2 63 "java/lang/IndexOutOfBoundsException" ["java/lang/RuntimeException", "java/lang/Exception"]).filter goodWord)
def wsX2_treasury : List Cond := .code yX2_treasury cX2_treasury 2 (some .int) :: ([.classLink RX2 59 "java/lang/IndexOutOfBoundsException", .initialized "java/lang/IndexOutOfBoundsException", .fieldLink RX2 53 "FundBook" "treasuryMargins" "[I", .methodLink RX2 177 yX2_hasEnded, .instanceMethod yX2_hasEnded, .selects RX2 yX2_hasEnded yX2_hasEnded, .initialized RX2, .code yX2_hasEnded cX2_hasEnded 2 (some .boolean), .fieldLink RX2 23 "FundBook" "now" "I"] ++ wsX20 ++ (vx_atS RX2 63 "java/lang/IndexOutOfBoundsException" ["java/lang/RuntimeException", "java/lang/Exception"]).filter goodWord)
def wsX2_interest : List Cond := .code yX2_interest cX2_interest 2 (some .int) :: ([.classLink RX2 59 "java/lang/IndexOutOfBoundsException", .initialized "java/lang/IndexOutOfBoundsException", .fieldLink RX2 56 "FundBook" "bankInterests" "[I", .methodLink RX2 177 yX2_hasEnded, .instanceMethod yX2_hasEnded, .selects RX2 yX2_hasEnded yX2_hasEnded, .initialized RX2, .code yX2_hasEnded cX2_hasEnded 2 (some .boolean), .fieldLink RX2 23 "FundBook" "now" "I"] ++ wsX20 ++ (vx_atS RX2 63 "java/lang/IndexOutOfBoundsException" ["java/lang/RuntimeException", "java/lang/Exception"]).filter goodWord)
def wsX3_init : List Cond := .code yX3_init cX3_init 1 none :: ([.methodLink RX3 1 objectInit, .instanceMethod objectInit, .code objectInit ⟨#[0xb1]⟩ 1 none, .arrayClass .int, .fieldLink RX3 7 "FundBookModel" "curve" "[I", .fieldLink RX3 13 "FundBookModel" "share" "I", .fieldLink RX3 17 "FundBookModel" "branch" "[I", .fieldLink RX3 20 "FundBookModel" "product" "[I", .fieldLink RX3 23 "FundBookModel" "customers" "[I", .fieldLink RX3 26 "FundBookModel" "option" "[I", .arrayClass .boolean, .fieldLink RX3 29 "FundBookModel" "hasOption" "[Z", .fieldLink RX3 33 "FundBookModel" "born" "[I", .fieldLink RX3 36 "FundBookModel" "part" "[I", .fieldLink RX3 39 "FundBookModel" "funded" "[I", .fieldLink RX3 42 "FundBookModel" "balance" "[I", .fieldLink RX3 45 "FundBookModel" "tranche" "[I", .fieldLink RX3 48 "FundBookModel" "laidAt" "[I", .fieldLink RX3 51 "FundBookModel" "margins" "[I", .fieldLink RX3 54 "FundBookModel" "products" "[I", .fieldLink RX3 57 "FundBookModel" "treasuries" "[I", .fieldLink RX3 60 "FundBookModel" "interests" "[I"] ++ wsX30)
def wsX3_thrown : List Cond := .code yX3_thrown cX3_thrown 1 (some .int) :: ([.fieldLink RX3 63 "FundBookModel" "thrown" "I"] ++ wsX30)
def wsX3_fails : List Cond := .code yX3_fails cX3_fails 2 (some .int) :: ([.fieldLink RX3 63 "FundBookModel" "thrown" "I"] ++ wsX30)
def wsX3_in : List Cond := .code yX3_in cX3_in 3 (some .boolean) :: ([])
def wsX3_isLoan : List Cond := .code yX3_isLoan cX3_isLoan 2 (some .boolean) :: ([.fieldLink RX3 66 "FundBookModel" "loans" "I", .methodLink RX3 69 yX3_in, .static yX3_in, .initialized RX3, .code yX3_in cX3_in 3 (some .boolean)] ++ wsX30)
def wsX3_isBranch : List Cond := .code yX3_isBranch cX3_isBranch 1 (some .boolean) :: ([.methodLink RX3 69 yX3_in, .static yX3_in, .initialized RX3, .code yX3_in cX3_in 3 (some .boolean)])
def wsX3_isEnded : List Cond := .code yX3_isEnded cX3_isEnded 2 (some .boolean) :: ([.fieldLink RX3 73 "FundBookModel" "now" "I", .methodLink RX3 69 yX3_in, .static yX3_in, .initialized RX3, .code yX3_in cX3_in 3 (some .boolean)] ++ wsX30)
def wsX3_setCurve : List Cond := .code yX3_setCurve cX3_setCurve 4 (some .int) :: ([.fieldLink RX3 63 "FundBookModel" "thrown" "I", .fieldLink RX3 7 "FundBookModel" "curve" "[I", .methodLink RX3 69 yX3_in, .static yX3_in, .initialized RX3, .code yX3_in cX3_in 3 (some .boolean), .methodLink RX3 76 yX3_fails, .instanceMethod yX3_fails, .selects RX3 yX3_fails yX3_fails, .code yX3_fails cX3_fails 2 (some .int)] ++ wsX30)
def wsX3_setRates : List Cond := .code yX3_setRates cX3_setRates 4 none :: ([.fieldLink RX3 63 "FundBookModel" "thrown" "I", .fieldLink RX3 80 "FundBookModel" "depositRate" "I", .fieldLink RX3 83 "FundBookModel" "optionRate" "I", .fieldLink RX3 13 "FundBookModel" "share" "I", .methodLink RX3 69 yX3_in, .static yX3_in, .initialized RX3, .code yX3_in cX3_in 3 (some .boolean)] ++ wsX30)
def wsX3_leftOf : List Cond := .code yX3_leftOf cX3_leftOf 4 (some .int) :: ([.fieldLink RX3 36 "FundBookModel" "part" "[I"] ++ wsX30)
def wsX3_bear : List Cond := .code yX3_bear cX3_bear 10 (some .int) :: ([.fieldLink RX3 36 "FundBookModel" "part" "[I", .fieldLink RX3 39 "FundBookModel" "funded" "[I", .fieldLink RX3 23 "FundBookModel" "customers" "[I", .constantLong RX3 89 (120000), .fieldLink RX3 29 "FundBookModel" "hasOption" "[Z", .fieldLink RX3 26 "FundBookModel" "option" "[I", .methodLink RX3 86 yX3_leftOf, .instanceMethod yX3_leftOf, .selects RX3 yX3_leftOf yX3_leftOf, .initialized RX3, .code yX3_leftOf cX3_leftOf 4 (some .int)] ++ wsX30)
def wsX3_lend_r1 : List Cond := [Cond.fieldLink RX3 63 "FundBookModel" "thrown" "I", Cond.constant RX3 95 (10000000), Cond.fieldLink RX3 66 "FundBookModel" "loans" "I", Cond.fieldLink RX3 17 "FundBookModel" "branch" "[I", Cond.fieldLink RX3 20 "FundBookModel" "product" "[I", Cond.fieldLink RX3 23 "FundBookModel" "customers" "[I", Cond.fieldLink RX3 26 "FundBookModel" "option" "[I", Cond.fieldLink RX3 83 "FundBookModel" "optionRate" "I", Cond.fieldLink RX3 29 "FundBookModel" "hasOption" "[Z", Cond.fieldLink RX3 33 "FundBookModel" "born" "[I", Cond.fieldLink RX3 73 "FundBookModel" "now" "I", Cond.fieldLink RX3 36 "FundBookModel" "part" "[I", Cond.fieldLink RX3 39 "FundBookModel" "funded" "[I", Cond.fieldLink RX3 7 "FundBookModel" "curve" "[I", Cond.methodLink RX3 91 yX3_isBranch, Cond.static yX3_isBranch, Cond.initialized RX3, Cond.code yX3_isBranch cX3_isBranch 1 (some .boolean), Cond.methodLink RX3 69 yX3_in, Cond.static yX3_in, Cond.code yX3_in cX3_in 3 (some .boolean), Cond.methodLink RX3 76 yX3_fails, Cond.instanceMethod yX3_fails, Cond.selects RX3 yX3_fails yX3_fails]
def wsX3_lend_r2 : List Cond := [Cond.code yX3_fails cX3_fails 2 (some .int)]
def wsX3_lend : List Cond := .code yX3_lend cX3_lend 8 (some .int) :: ((wsX3_lend_r1 ++ wsX3_lend_r2) ++ wsX30)
def wsX3_repay : List Cond := .code yX3_repay cX3_repay 4 (some .int) :: ([.fieldLink RX3 63 "FundBookModel" "thrown" "I", .fieldLink RX3 29 "FundBookModel" "hasOption" "[Z", .fieldLink RX3 36 "FundBookModel" "part" "[I", .methodLink RX3 96 yX3_isLoan, .instanceMethod yX3_isLoan, .selects RX3 yX3_isLoan yX3_isLoan, .initialized RX3, .code yX3_isLoan cX3_isLoan 2 (some .boolean), .fieldLink RX3 66 "FundBookModel" "loans" "I", .methodLink RX3 69 yX3_in, .static yX3_in, .code yX3_in cX3_in 3 (some .boolean), .methodLink RX3 76 yX3_fails, .instanceMethod yX3_fails, .selects RX3 yX3_fails yX3_fails, .code yX3_fails cX3_fails 2 (some .int), .methodLink RX3 86 yX3_leftOf, .instanceMethod yX3_leftOf, .selects RX3 yX3_leftOf yX3_leftOf, .code yX3_leftOf cX3_leftOf 4 (some .int)] ++ wsX30)
def wsX3_core : List Cond := .code yX3_core cX3_core 4 (some .int) :: ([.fieldLink RX3 42 "FundBookModel" "balance" "[I", .fieldLink RX3 13 "FundBookModel" "share" "I", .constantLong RX3 99 (100)] ++ wsX30)
def wsX3_lays : List Cond := .code yX3_lays cX3_lays 2 none :: ([.fieldLink RX3 45 "FundBookModel" "tranche" "[I", .fieldLink RX3 48 "FundBookModel" "laidAt" "[I", .fieldLink RX3 7 "FundBookModel" "curve" "[I", .methodLink RX3 101 yX3_core, .instanceMethod yX3_core, .selects RX3 yX3_core yX3_core, .initialized RX3, .code yX3_core cX3_core 4 (some .int), .fieldLink RX3 42 "FundBookModel" "balance" "[I", .fieldLink RX3 13 "FundBookModel" "share" "I", .constantLong RX3 99 (100)] ++ wsX30)
def wsX3_replica : List Cond := .code yX3_replica cX3_replica 6 (some .int) :: ([.fieldLink RX3 45 "FundBookModel" "tranche" "[I", .fieldLink RX3 48 "FundBookModel" "laidAt" "[I"] ++ wsX30)
def wsX3_deposit_r1 : List Cond := [Cond.fieldLink RX3 63 "FundBookModel" "thrown" "I", Cond.constant RX3 105 (-10000000), Cond.constant RX3 95 (10000000), Cond.fieldLink RX3 42 "FundBookModel" "balance" "[I", Cond.fieldLink RX3 73 "FundBookModel" "now" "I", Cond.methodLink RX3 91 yX3_isBranch, Cond.static yX3_isBranch, Cond.initialized RX3, Cond.code yX3_isBranch cX3_isBranch 1 (some .boolean), Cond.methodLink RX3 69 yX3_in, Cond.static yX3_in, Cond.code yX3_in cX3_in 3 (some .boolean), Cond.methodLink RX3 76 yX3_fails, Cond.instanceMethod yX3_fails, Cond.selects RX3 yX3_fails yX3_fails, Cond.code yX3_fails cX3_fails 2 (some .int), Cond.methodLink RX3 106 yX3_lays, Cond.instanceMethod yX3_lays, Cond.selects RX3 yX3_lays yX3_lays, Cond.code yX3_lays cX3_lays 2 none, Cond.fieldLink RX3 45 "FundBookModel" "tranche" "[I", Cond.fieldLink RX3 48 "FundBookModel" "laidAt" "[I", Cond.fieldLink RX3 7 "FundBookModel" "curve" "[I", Cond.methodLink RX3 101 yX3_core]
def wsX3_deposit_r2 : List Cond := [Cond.instanceMethod yX3_core, Cond.selects RX3 yX3_core yX3_core, Cond.code yX3_core cX3_core 4 (some .int), Cond.fieldLink RX3 13 "FundBookModel" "share" "I", Cond.constantLong RX3 99 (100)]
def wsX3_deposit : List Cond := .code yX3_deposit cX3_deposit 4 (some .int) :: ((wsX3_deposit_r1 ++ wsX3_deposit_r2) ++ wsX30)
def wsX3_isPaid : List Cond := .code yX3_isPaid cX3_isPaid 4 (some .int) :: ([.fieldLink RX3 42 "FundBookModel" "balance" "[I", .fieldLink RX3 13 "FundBookModel" "share" "I", .constantLong RX3 99 (100), .fieldLink RX3 7 "FundBookModel" "curve" "[I", .constantLong RX3 89 (120000), .methodLink RX3 110 yX3_replica, .instanceMethod yX3_replica, .selects RX3 yX3_replica yX3_replica, .initialized RX3, .code yX3_replica cX3_replica 6 (some .int), .fieldLink RX3 45 "FundBookModel" "tranche" "[I", .fieldLink RX3 48 "FundBookModel" "laidAt" "[I"] ++ wsX30)
def wsX3_pays : List Cond := .code yX3_pays cX3_pays 2 (some .int) :: ([.fieldLink RX3 42 "FundBookModel" "balance" "[I", .fieldLink RX3 80 "FundBookModel" "depositRate" "I", .constantLong RX3 89 (120000)] ++ wsX30)
def wsX3_closeMonth_r1 : List Cond := [Cond.fieldLink RX3 63 "FundBookModel" "thrown" "I", Cond.fieldLink RX3 73 "FundBookModel" "now" "I", Cond.fieldLink RX3 66 "FundBookModel" "loans" "I", Cond.fieldLink RX3 51 "FundBookModel" "margins" "[I", Cond.fieldLink RX3 17 "FundBookModel" "branch" "[I", Cond.fieldLink RX3 54 "FundBookModel" "products" "[I", Cond.fieldLink RX3 20 "FundBookModel" "product" "[I", Cond.fieldLink RX3 57 "FundBookModel" "treasuries" "[I", Cond.fieldLink RX3 60 "FundBookModel" "interests" "[I", Cond.fieldLink RX3 33 "FundBookModel" "born" "[I", Cond.fieldLink RX3 36 "FundBookModel" "part" "[I", Cond.methodLink RX3 76 yX3_fails, Cond.instanceMethod yX3_fails, Cond.selects RX3 yX3_fails yX3_fails, Cond.initialized RX3, Cond.code yX3_fails cX3_fails 2 (some .int), Cond.methodLink RX3 113 yX3_bear, Cond.instanceMethod yX3_bear, Cond.selects RX3 yX3_bear yX3_bear, Cond.code yX3_bear cX3_bear 10 (some .int), Cond.fieldLink RX3 39 "FundBookModel" "funded" "[I", Cond.fieldLink RX3 23 "FundBookModel" "customers" "[I", Cond.constantLong RX3 89 (120000), Cond.fieldLink RX3 29 "FundBookModel" "hasOption" "[Z"]
def wsX3_closeMonth_r2 : List Cond := [Cond.fieldLink RX3 26 "FundBookModel" "option" "[I", Cond.methodLink RX3 86 yX3_leftOf, Cond.instanceMethod yX3_leftOf, Cond.selects RX3 yX3_leftOf yX3_leftOf, Cond.code yX3_leftOf cX3_leftOf 4 (some .int), Cond.methodLink RX3 117 yX3_isPaid, Cond.instanceMethod yX3_isPaid, Cond.selects RX3 yX3_isPaid yX3_isPaid, Cond.code yX3_isPaid cX3_isPaid 4 (some .int), Cond.fieldLink RX3 42 "FundBookModel" "balance" "[I", Cond.fieldLink RX3 13 "FundBookModel" "share" "I", Cond.constantLong RX3 99 (100), Cond.fieldLink RX3 7 "FundBookModel" "curve" "[I", Cond.methodLink RX3 110 yX3_replica, Cond.instanceMethod yX3_replica, Cond.selects RX3 yX3_replica yX3_replica, Cond.code yX3_replica cX3_replica 6 (some .int), Cond.fieldLink RX3 45 "FundBookModel" "tranche" "[I", Cond.fieldLink RX3 48 "FundBookModel" "laidAt" "[I", Cond.methodLink RX3 120 yX3_pays, Cond.instanceMethod yX3_pays, Cond.selects RX3 yX3_pays yX3_pays, Cond.code yX3_pays cX3_pays 2 (some .int), Cond.fieldLink RX3 80 "FundBookModel" "depositRate" "I"]
def wsX3_closeMonth_r3 : List Cond := [Cond.methodLink RX3 106 yX3_lays, Cond.instanceMethod yX3_lays, Cond.selects RX3 yX3_lays yX3_lays, Cond.code yX3_lays cX3_lays 2 none, Cond.methodLink RX3 101 yX3_core, Cond.instanceMethod yX3_core, Cond.selects RX3 yX3_core yX3_core, Cond.code yX3_core cX3_core 4 (some .int)]
def wsX3_closeMonth : List Cond := .code yX3_closeMonth cX3_closeMonth 4 (some .int) :: ((wsX3_closeMonth_r1 ++ (wsX3_closeMonth_r2 ++ wsX3_closeMonth_r3)) ++ wsX30)
def wsX3_month : List Cond := .code yX3_month cX3_month 1 (some .int) :: ([.fieldLink RX3 63 "FundBookModel" "thrown" "I", .fieldLink RX3 73 "FundBookModel" "now" "I"] ++ wsX30)
def wsX3_loans : List Cond := .code yX3_loans cX3_loans 1 (some .int) :: ([.fieldLink RX3 63 "FundBookModel" "thrown" "I", .fieldLink RX3 66 "FundBookModel" "loans" "I"] ++ wsX30)
def wsX3_left : List Cond := .code yX3_left cX3_left 2 (some .int) :: ([.fieldLink RX3 63 "FundBookModel" "thrown" "I", .methodLink RX3 96 yX3_isLoan, .instanceMethod yX3_isLoan, .selects RX3 yX3_isLoan yX3_isLoan, .initialized RX3, .code yX3_isLoan cX3_isLoan 2 (some .boolean), .fieldLink RX3 66 "FundBookModel" "loans" "I", .methodLink RX3 69 yX3_in, .static yX3_in, .code yX3_in cX3_in 3 (some .boolean), .methodLink RX3 86 yX3_leftOf, .instanceMethod yX3_leftOf, .selects RX3 yX3_leftOf yX3_leftOf, .code yX3_leftOf cX3_leftOf 4 (some .int), .fieldLink RX3 36 "FundBookModel" "part" "[I", .methodLink RX3 76 yX3_fails, .instanceMethod yX3_fails, .selects RX3 yX3_fails yX3_fails, .code yX3_fails cX3_fails 2 (some .int)] ++ wsX30)
def wsX3_bears_r1 : List Cond := [Cond.fieldLink RX3 63 "FundBookModel" "thrown" "I", Cond.methodLink RX3 96 yX3_isLoan, Cond.instanceMethod yX3_isLoan, Cond.selects RX3 yX3_isLoan yX3_isLoan, Cond.initialized RX3, Cond.code yX3_isLoan cX3_isLoan 2 (some .boolean), Cond.fieldLink RX3 66 "FundBookModel" "loans" "I", Cond.methodLink RX3 69 yX3_in, Cond.static yX3_in, Cond.code yX3_in cX3_in 3 (some .boolean), Cond.methodLink RX3 76 yX3_fails, Cond.instanceMethod yX3_fails, Cond.selects RX3 yX3_fails yX3_fails, Cond.code yX3_fails cX3_fails 2 (some .int), Cond.methodLink RX3 113 yX3_bear, Cond.instanceMethod yX3_bear, Cond.selects RX3 yX3_bear yX3_bear, Cond.code yX3_bear cX3_bear 10 (some .int), Cond.fieldLink RX3 36 "FundBookModel" "part" "[I", Cond.fieldLink RX3 39 "FundBookModel" "funded" "[I", Cond.fieldLink RX3 23 "FundBookModel" "customers" "[I", Cond.constantLong RX3 89 (120000), Cond.fieldLink RX3 29 "FundBookModel" "hasOption" "[Z", Cond.fieldLink RX3 26 "FundBookModel" "option" "[I"]
def wsX3_bears_r2 : List Cond := [Cond.methodLink RX3 86 yX3_leftOf, Cond.instanceMethod yX3_leftOf, Cond.selects RX3 yX3_leftOf yX3_leftOf, Cond.code yX3_leftOf cX3_leftOf 4 (some .int)]
def wsX3_bears : List Cond := .code yX3_bears cX3_bears 3 (some .int) :: ((wsX3_bears_r1 ++ wsX3_bears_r2) ++ wsX30)
def wsX3_due : List Cond := .code yX3_due cX3_due 5 (some .int) :: ([.fieldLink RX3 63 "FundBookModel" "thrown" "I", .fieldLink RX3 66 "FundBookModel" "loans" "I", .fieldLink RX3 73 "FundBookModel" "now" "I", .fieldLink RX3 33 "FundBookModel" "born" "[I", .fieldLink RX3 36 "FundBookModel" "part" "[I", .methodLink RX3 69 yX3_in, .static yX3_in, .initialized RX3, .code yX3_in cX3_in 3 (some .boolean), .methodLink RX3 76 yX3_fails, .instanceMethod yX3_fails, .selects RX3 yX3_fails yX3_fails, .code yX3_fails cX3_fails 2 (some .int)] ++ wsX30)
def wsX3_balance : List Cond := .code yX3_balance cX3_balance 2 (some .int) :: ([.fieldLink RX3 63 "FundBookModel" "thrown" "I", .fieldLink RX3 42 "FundBookModel" "balance" "[I", .methodLink RX3 91 yX3_isBranch, .static yX3_isBranch, .initialized RX3, .code yX3_isBranch cX3_isBranch 1 (some .boolean), .methodLink RX3 69 yX3_in, .static yX3_in, .code yX3_in cX3_in 3 (some .boolean), .methodLink RX3 76 yX3_fails, .instanceMethod yX3_fails, .selects RX3 yX3_fails yX3_fails, .code yX3_fails cX3_fails 2 (some .int)] ++ wsX30)
def wsX3_tranche : List Cond := .code yX3_tranche cX3_tranche 2 (some .int) :: ([.fieldLink RX3 63 "FundBookModel" "thrown" "I", .fieldLink RX3 45 "FundBookModel" "tranche" "[I", .methodLink RX3 69 yX3_in, .static yX3_in, .initialized RX3, .code yX3_in cX3_in 3 (some .boolean), .methodLink RX3 76 yX3_fails, .instanceMethod yX3_fails, .selects RX3 yX3_fails yX3_fails, .code yX3_fails cX3_fails 2 (some .int)] ++ wsX30)
def wsX3_replicaRate : List Cond := .code yX3_replicaRate cX3_replicaRate 1 (some .int) :: ([.fieldLink RX3 63 "FundBookModel" "thrown" "I", .methodLink RX3 110 yX3_replica, .instanceMethod yX3_replica, .selects RX3 yX3_replica yX3_replica, .initialized RX3, .code yX3_replica cX3_replica 6 (some .int), .fieldLink RX3 45 "FundBookModel" "tranche" "[I", .fieldLink RX3 48 "FundBookModel" "laidAt" "[I"] ++ wsX30)
def wsX3_margin : List Cond := .code yX3_margin cX3_margin 3 (some .int) :: ([.fieldLink RX3 63 "FundBookModel" "thrown" "I", .fieldLink RX3 51 "FundBookModel" "margins" "[I", .methodLink RX3 91 yX3_isBranch, .static yX3_isBranch, .initialized RX3, .code yX3_isBranch cX3_isBranch 1 (some .boolean), .methodLink RX3 69 yX3_in, .static yX3_in, .code yX3_in cX3_in 3 (some .boolean), .methodLink RX3 123 yX3_isEnded, .instanceMethod yX3_isEnded, .selects RX3 yX3_isEnded yX3_isEnded, .code yX3_isEnded cX3_isEnded 2 (some .boolean), .fieldLink RX3 73 "FundBookModel" "now" "I", .methodLink RX3 76 yX3_fails, .instanceMethod yX3_fails, .selects RX3 yX3_fails yX3_fails, .code yX3_fails cX3_fails 2 (some .int)] ++ wsX30)
def wsX3_byProduct : List Cond := .code yX3_byProduct cX3_byProduct 3 (some .int) :: ([.fieldLink RX3 63 "FundBookModel" "thrown" "I", .fieldLink RX3 54 "FundBookModel" "products" "[I", .methodLink RX3 69 yX3_in, .static yX3_in, .initialized RX3, .code yX3_in cX3_in 3 (some .boolean), .methodLink RX3 123 yX3_isEnded, .instanceMethod yX3_isEnded, .selects RX3 yX3_isEnded yX3_isEnded, .code yX3_isEnded cX3_isEnded 2 (some .boolean), .fieldLink RX3 73 "FundBookModel" "now" "I", .methodLink RX3 76 yX3_fails, .instanceMethod yX3_fails, .selects RX3 yX3_fails yX3_fails, .code yX3_fails cX3_fails 2 (some .int)] ++ wsX30)
def wsX3_treasury : List Cond := .code yX3_treasury cX3_treasury 2 (some .int) :: ([.fieldLink RX3 63 "FundBookModel" "thrown" "I", .fieldLink RX3 57 "FundBookModel" "treasuries" "[I", .methodLink RX3 123 yX3_isEnded, .instanceMethod yX3_isEnded, .selects RX3 yX3_isEnded yX3_isEnded, .initialized RX3, .code yX3_isEnded cX3_isEnded 2 (some .boolean), .fieldLink RX3 73 "FundBookModel" "now" "I", .methodLink RX3 69 yX3_in, .static yX3_in, .code yX3_in cX3_in 3 (some .boolean), .methodLink RX3 76 yX3_fails, .instanceMethod yX3_fails, .selects RX3 yX3_fails yX3_fails, .code yX3_fails cX3_fails 2 (some .int)] ++ wsX30)
def wsX3_interest : List Cond := .code yX3_interest cX3_interest 2 (some .int) :: ([.fieldLink RX3 63 "FundBookModel" "thrown" "I", .fieldLink RX3 60 "FundBookModel" "interests" "[I", .methodLink RX3 123 yX3_isEnded, .instanceMethod yX3_isEnded, .selects RX3 yX3_isEnded yX3_isEnded, .initialized RX3, .code yX3_isEnded cX3_isEnded 2 (some .boolean), .fieldLink RX3 73 "FundBookModel" "now" "I", .methodLink RX3 69 yX3_in, .static yX3_in, .code yX3_in cX3_in 3 (some .boolean), .methodLink RX3 76 yX3_fails, .instanceMethod yX3_fails, .selects RX3 yX3_fails yX3_fails, .code yX3_fails cX3_fails 2 (some .int)] ++ wsX30)
def wsL_setCurve : List Cond := .codeWith yL_setCurve cL_setCurve 5 (some .int) [(0, 10, 13, 13), (0, 10, 17, 15)] :: ([.classLink RL 13 "java/lang/IndexOutOfBoundsException", .classLink RL 15 "java/lang/IllegalArgumentException", .methodLink RL 7 yX2_setCurve, .instanceMethod yX2_setCurve, .selects RX2 yX2_setCurve yX2_setCurve, .initialized RX2, .code yX2_setCurve cX2_setCurve 4 (some .int), .classLink RX2 59 "java/lang/IndexOutOfBoundsException", .initialized "java/lang/IndexOutOfBoundsException", .classLink RX2 66 "java/lang/IllegalArgumentException", .initialized "java/lang/IllegalArgumentException", .fieldLink RX2 9 "FundBook" "curve" "[I"] ++ wsX20 ++ (vx_atS RX2 63 "java/lang/IndexOutOfBoundsException" ["java/lang/RuntimeException", "java/lang/Exception"]).filter goodWord ++ (vx_atS RX2 70 "java/lang/IllegalArgumentException" ["java/lang/RuntimeException", "java/lang/Exception"]).filter goodWord)
def wsL_setRates : List Cond := .codeWith yL_setRates cL_setRates 5 (some .int) [(0, 7, 10, 15)] :: ([.classLink RL 15 "java/lang/IllegalArgumentException", .methodLink RL 17 yX2_setRates, .instanceMethod yX2_setRates, .selects RX2 yX2_setRates yX2_setRates, .initialized RX2, .code yX2_setRates cX2_setRates 4 none, .classLink RX2 66 "java/lang/IllegalArgumentException", .initialized "java/lang/IllegalArgumentException", .fieldLink RX2 13 "FundBook" "depositRate" "I", .fieldLink RX2 17 "FundBook" "optionRate" "I", .fieldLink RX2 20 "FundBook" "coreShare" "I"] ++ wsX20 ++ (vx_atS RX2 70 "java/lang/IllegalArgumentException" ["java/lang/RuntimeException", "java/lang/Exception"]).filter goodWord)
def wsL_lend_r1 : List Cond := [Cond.classLink RL 13 "java/lang/IndexOutOfBoundsException", Cond.classLink RL 15 "java/lang/IllegalArgumentException", Cond.classLink RL 25 "java/lang/IllegalStateException", Cond.methodLink RL 21 yX2_lend, Cond.instanceMethod yX2_lend, Cond.selects RX2 yX2_lend yX2_lend, Cond.initialized RX2, Cond.code yX2_lend cX2_lend 10 (some .int), Cond.classLink RX2 59 "java/lang/IndexOutOfBoundsException", Cond.initialized "java/lang/IndexOutOfBoundsException", Cond.classLink RX2 66 "java/lang/IllegalArgumentException", Cond.initialized "java/lang/IllegalArgumentException", Cond.classLink RX2 84 "java/lang/IllegalStateException", Cond.initialized "java/lang/IllegalStateException", Cond.constant RX2 79 (10000000), Cond.fieldLink RX2 32 "FundBook" "loanCount" "I", Cond.fieldLink RX2 17 "FundBook" "optionRate" "I", Cond.fieldLink RX2 28 "FundBook" "loanRows" "[LFundBook$Loan;", Cond.classLink RX2 26 RX0, Cond.instantiable RX0 8, Cond.initialized RX0, Cond.fieldLink RX2 9 "FundBook" "curve" "[I", Cond.methodLink RX2 93 ⟨"[I", "clone", "()Ljava/lang/Object;"⟩, Cond.sameMethod "[I" "java/lang/Object" "clone" "()Ljava/lang/Object;"]
def wsL_lend_r2 : List Cond := [Cond.native ⟨"java/lang/Object", "clone", "()Ljava/lang/Object;"⟩, Cond.instanceMethod ⟨"java/lang/Object", "clone", "()Ljava/lang/Object;"⟩, Cond.selects "[I" ⟨"[I", "clone", "()Ljava/lang/Object;"⟩ ⟨"java/lang/Object", "clone", "()Ljava/lang/Object;"⟩, Cond.classLink RX2 94 "[I", Cond.methodLink RX2 89 yX2_cutIntoParts, Cond.static yX2_cutIntoParts, Cond.code yX2_cutIntoParts cX2_cutIntoParts 5 (some (.array .int)), Cond.arrayClass .int, Cond.instanceMethod yX0_init, Cond.code yX0_init cX0_init 8 none, Cond.methodLink RX0 3 objectInit, Cond.instanceMethod objectInit, Cond.code objectInit ⟨#[0xb1]⟩ 1 none, Cond.fieldLink RX0 9 "FundBook$Loan" "branch" "I", Cond.fieldLink RX0 15 "FundBook$Loan" "product" "I", Cond.fieldLink RX0 18 "FundBook$Loan" "rate" "I", Cond.fieldLink RX0 21 "FundBook$Loan" "hasOption" "Z", Cond.fieldLink RX0 25 "FundBook$Loan" "optionRate" "I", Cond.fieldLink RX0 28 "FundBook$Loan" "parts" "[I", Cond.fieldLink RX0 32 "FundBook$Loan" "fundingRates" "[I", Cond.fieldLink RX0 35 "FundBook$Loan" "paidParts" "I"]
def wsL_lend : List Cond := .codeWith yL_lend cL_lend 9 (some .int) [(0, 18, 21, 13), (0, 18, 25, 15), (0, 18, 29, 25)] :: ((wsL_lend_r1 ++ wsL_lend_r2) ++ wsX20 ++ wsX00 ++ (vx_atS RX2 63 "java/lang/IndexOutOfBoundsException" ["java/lang/RuntimeException", "java/lang/Exception"]).filter goodWord ++ (vx_atS RX2 70 "java/lang/IllegalArgumentException" ["java/lang/RuntimeException", "java/lang/Exception"]).filter goodWord ++ (vx_atS RX2 88 "java/lang/IllegalStateException" ["java/lang/RuntimeException", "java/lang/Exception"]).filter goodWord)
def wsL_repay_r1 : List Cond := [Cond.classLink RL 13 "java/lang/IndexOutOfBoundsException", Cond.classLink RL 25 "java/lang/IllegalStateException", Cond.methodLink RL 27 yX2_repay, Cond.instanceMethod yX2_repay, Cond.selects RX2 yX2_repay yX2_repay, Cond.initialized RX2, Cond.code yX2_repay cX2_repay 4 (some .int), Cond.classLink RX2 59 "java/lang/IndexOutOfBoundsException", Cond.initialized "java/lang/IndexOutOfBoundsException", Cond.classLink RX2 84 "java/lang/IllegalStateException", Cond.initialized "java/lang/IllegalStateException", Cond.methodLink RX2 101 yX2_findLoan, Cond.instanceMethod yX2_findLoan, Cond.selects RX2 yX2_findLoan yX2_findLoan, Cond.code yX2_findLoan cX2_findLoan 2 (some (.object "FundBook$Loan")), Cond.fieldLink RX2 28 "FundBook" "loanRows" "[LFundBook$Loan;", Cond.instanceMethod yX0_unpaid, Cond.initialized RX0, Cond.selects RX0 yX0_unpaid yX0_unpaid, Cond.code yX0_unpaid cX0_unpaid 3 (some .int), Cond.fieldLink RX0 35 "FundBook$Loan" "paidParts" "I", Cond.fieldLink RX0 28 "FundBook$Loan" "parts" "[I", Cond.instanceMethod yX0_settle, Cond.selects RX0 yX0_settle yX0_settle]
def wsL_repay_r2 : List Cond := [Cond.code yX0_settle cX0_settle 1 none]
def wsL_repay : List Cond := .codeWith yL_repay cL_repay 4 (some .int) [(0, 9, 12, 13), (0, 9, 15, 25)] :: ((wsL_repay_r1 ++ wsL_repay_r2) ++ wsX00 ++ wsX20 ++ (vx_atS RX2 63 "java/lang/IndexOutOfBoundsException" ["java/lang/RuntimeException", "java/lang/Exception"]).filter goodWord ++ (vx_atS RX2 88 "java/lang/IllegalStateException" ["java/lang/RuntimeException", "java/lang/Exception"]).filter goodWord)
def wsL_deposit_r1 : List Cond := [Cond.classLink RL 13 "java/lang/IndexOutOfBoundsException", Cond.classLink RL 15 "java/lang/IllegalArgumentException", Cond.classLink RL 25 "java/lang/IllegalStateException", Cond.methodLink RL 31 yX2_deposit, Cond.instanceMethod yX2_deposit, Cond.selects RX2 yX2_deposit yX2_deposit, Cond.initialized RX2, Cond.code yX2_deposit cX2_deposit 4 (some .int), Cond.classLink RX2 59 "java/lang/IndexOutOfBoundsException", Cond.initialized "java/lang/IndexOutOfBoundsException", Cond.classLink RX2 66 "java/lang/IllegalArgumentException", Cond.initialized "java/lang/IllegalArgumentException", Cond.classLink RX2 84 "java/lang/IllegalStateException", Cond.initialized "java/lang/IllegalStateException", Cond.constant RX2 122 (-10000000), Cond.constant RX2 79 (10000000), Cond.fieldLink RX2 35 "FundBook" "balances" "[I", Cond.fieldLink RX2 23 "FundBook" "now" "I", Cond.fieldLink RX2 41 "FundBook" "replica" "LFundBook$Replica;", Cond.fieldLink RX2 9 "FundBook" "curve" "[I", Cond.methodLink RX2 127 yX2_trancheAmount, Cond.instanceMethod yX2_trancheAmount, Cond.selects RX2 yX2_trancheAmount yX2_trancheAmount, Cond.code yX2_trancheAmount cX2_trancheAmount 7 (some .int)]
def wsL_deposit_r2 : List Cond := [Cond.methodLink RX2 191 yX2_coreOf, Cond.instanceMethod yX2_coreOf, Cond.selects RX2 yX2_coreOf yX2_coreOf, Cond.code yX2_coreOf cX2_coreOf 3 (some .int), Cond.fieldLink RX2 20 "FundBook" "coreShare" "I", Cond.constantLong RX2 189 (100), Cond.instanceMethod yX1_layAll, Cond.initialized RX1, Cond.selects RX1 yX1_layAll yX1_layAll, Cond.code yX1_layAll cX1_layAll 4 none, Cond.methodLink RX1 18 yX1_lay, Cond.instanceMethod yX1_lay, Cond.selects RX1 yX1_lay yX1_lay, Cond.code yX1_lay cX1_lay 4 none, Cond.fieldLink RX1 9 "FundBook$Replica" "amounts" "[I", Cond.fieldLink RX1 15 "FundBook$Replica" "rates" "[I"]
def wsL_deposit : List Cond := .codeWith yL_deposit cL_deposit 5 (some .int) [(0, 10, 13, 13), (0, 10, 17, 15), (0, 10, 21, 25)] :: ((wsL_deposit_r1 ++ wsL_deposit_r2) ++ wsX20 ++ wsX10 ++ (vx_atS RX2 63 "java/lang/IndexOutOfBoundsException" ["java/lang/RuntimeException", "java/lang/Exception"]).filter goodWord ++ (vx_atS RX2 70 "java/lang/IllegalArgumentException" ["java/lang/RuntimeException", "java/lang/Exception"]).filter goodWord ++ (vx_atS RX2 88 "java/lang/IllegalStateException" ["java/lang/RuntimeException", "java/lang/Exception"]).filter goodWord)
def wsL_closeMonth_r1 : List Cond := [Cond.classLink RL 25 "java/lang/IllegalStateException", Cond.methodLink RL 34 yX2_closeMonth, Cond.instanceMethod yX2_closeMonth, Cond.selects RX2 yX2_closeMonth yX2_closeMonth, Cond.initialized RX2, Cond.code yX2_closeMonth cX2_closeMonth 1 (some .int), Cond.classLink RX2 84 "java/lang/IllegalStateException", Cond.initialized "java/lang/IllegalStateException", Cond.fieldLink RX2 23 "FundBook" "now" "I", Cond.fieldLink RX2 41 "FundBook" "replica" "LFundBook$Replica;", Cond.fieldLink RX2 9 "FundBook" "curve" "[I", Cond.methodLink RX2 136 yX2_reckonLoans, Cond.instanceMethod yX2_reckonLoans, Cond.selects RX2 yX2_reckonLoans yX2_reckonLoans, Cond.code yX2_reckonLoans cX2_reckonLoans 7 none, Cond.fieldLink RX2 47 "FundBook" "branchMargins" "[[I", Cond.fieldLink RX2 50 "FundBook" "productMargins" "[[I", Cond.fieldLink RX2 28 "FundBook" "loanRows" "[LFundBook$Loan;", Cond.fieldLink RX2 53 "FundBook" "treasuryMargins" "[I", Cond.fieldLink RX2 56 "FundBook" "bankInterests" "[I", Cond.methodLink RX2 195 yX2_loanMarginsOfBranch, Cond.instanceMethod yX2_loanMarginsOfBranch, Cond.selects RX2 yX2_loanMarginsOfBranch yX2_loanMarginsOfBranch, Cond.code yX2_loanMarginsOfBranch cX2_loanMarginsOfBranch 7 (some .int)]
def wsL_closeMonth_r2 : List Cond := [Cond.instanceMethod yX0_ownMargin, Cond.initialized RX0, Cond.selects RX0 yX0_ownMargin yX0_ownMargin, Cond.code yX0_ownMargin cX0_ownMargin 1 (some .int), Cond.methodLink RX0 46 yX0_customerInterest, Cond.instanceMethod yX0_customerInterest, Cond.selects RX0 yX0_customerInterest yX0_customerInterest, Cond.code yX0_customerInterest cX0_customerInterest 1 (some .int), Cond.fieldLink RX0 18 "FundBook$Loan" "rate" "I", Cond.methodLink RX0 38 yX0_unpaid, Cond.instanceMethod yX0_unpaid, Cond.selects RX0 yX0_unpaid yX0_unpaid, Cond.code yX0_unpaid cX0_unpaid 3 (some .int), Cond.fieldLink RX0 35 "FundBook$Loan" "paidParts" "I", Cond.fieldLink RX0 28 "FundBook$Loan" "parts" "[I", Cond.static yX2_forOneMonth, Cond.code yX2_forOneMonth cX2_forOneMonth 2 (some .int), Cond.constantLong RX2 187 (120000), Cond.methodLink RX0 49 yX0_funding, Cond.instanceMethod yX0_funding, Cond.selects RX0 yX0_funding yX0_funding, Cond.code yX0_funding cX0_funding 4 (some .int), Cond.fieldLink RX0 32 "FundBook$Loan" "fundingRates" "[I", Cond.methodLink RX0 52 yX0_optionCharge]
def wsL_closeMonth_r3 : List Cond := [Cond.instanceMethod yX0_optionCharge, Cond.selects RX0 yX0_optionCharge yX0_optionCharge, Cond.code yX0_optionCharge cX0_optionCharge 1 (some .int), Cond.fieldLink RX0 25 "FundBook$Loan" "optionRate" "I", Cond.methodLink RX2 198 yX2_loanMarginsOfProduct, Cond.instanceMethod yX2_loanMarginsOfProduct, Cond.selects RX2 yX2_loanMarginsOfProduct yX2_loanMarginsOfProduct, Cond.code yX2_loanMarginsOfProduct cX2_loanMarginsOfProduct 7 (some .int), Cond.methodLink RX2 139 yX2_reckonDeposits, Cond.instanceMethod yX2_reckonDeposits, Cond.selects RX2 yX2_reckonDeposits yX2_reckonDeposits, Cond.code yX2_reckonDeposits cX2_reckonDeposits 5 none, Cond.fieldLink RX2 35 "FundBook" "balances" "[I", Cond.fieldLink RX2 13 "FundBook" "depositRate" "I", Cond.instanceMethod yX1_averageRate, Cond.initialized RX1, Cond.selects RX1 yX1_averageRate yX1_averageRate, Cond.code yX1_averageRate cX1_averageRate 6 (some .int), Cond.fieldLink RX1 9 "FundBook$Replica" "amounts" "[I", Cond.fieldLink RX1 15 "FundBook$Replica" "rates" "[I", Cond.methodLink RX2 207 yX2_paidForDeposits, Cond.instanceMethod yX2_paidForDeposits, Cond.selects RX2 yX2_paidForDeposits yX2_paidForDeposits, Cond.code yX2_paidForDeposits cX2_paidForDeposits 5 (some .int)]
def wsL_closeMonth_r4 : List Cond := [Cond.methodLink RX2 191 yX2_coreOf, Cond.instanceMethod yX2_coreOf, Cond.selects RX2 yX2_coreOf yX2_coreOf, Cond.code yX2_coreOf cX2_coreOf 3 (some .int), Cond.fieldLink RX2 20 "FundBook" "coreShare" "I", Cond.constantLong RX2 189 (100), Cond.methodLink RX2 211 yX2_forOneMonth, Cond.methodLink RX2 142 yX2_payParts, Cond.instanceMethod yX2_payParts, Cond.selects RX2 yX2_payParts yX2_payParts, Cond.code yX2_payParts cX2_payParts 5 none, Cond.instanceMethod yX0_payPart, Cond.selects RX0 yX0_payPart yX0_payPart, Cond.code yX0_payPart cX0_payPart 1 none, Cond.methodLink RX2 127 yX2_trancheAmount, Cond.instanceMethod yX2_trancheAmount, Cond.selects RX2 yX2_trancheAmount yX2_trancheAmount, Cond.code yX2_trancheAmount cX2_trancheAmount 7 (some .int), Cond.instanceMethod yX1_lay, Cond.selects RX1 yX1_lay yX1_lay, Cond.code yX1_lay cX1_lay 4 none]
def wsL_closeMonth : List Cond := .codeWith yL_closeMonth cL_closeMonth 3 (some .int) [(0, 8, 11, 25)] :: ((wsL_closeMonth_r1 ++ (wsL_closeMonth_r2 ++ (wsL_closeMonth_r3 ++ wsL_closeMonth_r4))) ++ wsX20 ++ wsX00 ++ wsX10 ++ (vx_atS RX2 88 "java/lang/IllegalStateException" ["java/lang/RuntimeException", "java/lang/Exception"]).filter goodWord)
def wsL_left : List Cond := .codeWith yL_left cL_left 4 (some .int) [(0, 9, 12, 13)] :: ([.classLink RL 13 "java/lang/IndexOutOfBoundsException", .methodLink RL 38 yX2_left, .instanceMethod yX2_left, .selects RX2 yX2_left yX2_left, .initialized RX2, .code yX2_left cX2_left 3 (some .int), .classLink RX2 59 "java/lang/IndexOutOfBoundsException", .initialized "java/lang/IndexOutOfBoundsException", .methodLink RX2 101 yX2_findLoan, .instanceMethod yX2_findLoan, .selects RX2 yX2_findLoan yX2_findLoan, .code yX2_findLoan cX2_findLoan 2 (some (.object "FundBook$Loan")), .fieldLink RX2 28 "FundBook" "loanRows" "[LFundBook$Loan;", .instanceMethod yX0_unpaid, .initialized RX0, .selects RX0 yX0_unpaid yX0_unpaid, .code yX0_unpaid cX0_unpaid 3 (some .int), .fieldLink RX0 35 "FundBook$Loan" "paidParts" "I", .fieldLink RX0 28 "FundBook$Loan" "parts" "[I"] ++ wsX20 ++ wsX00 ++ (vx_atS RX2 63 "java/lang/IndexOutOfBoundsException" ["java/lang/RuntimeException", "java/lang/Exception"]).filter goodWord)
def wsL_bears_r1 : List Cond := [Cond.classLink RL 13 "java/lang/IndexOutOfBoundsException", Cond.classLink RL 15 "java/lang/IllegalArgumentException", Cond.methodLink RL 41 yX2_bears, Cond.instanceMethod yX2_bears, Cond.selects RX2 yX2_bears yX2_bears, Cond.initialized RX2, Cond.code yX2_bears cX2_bears 4 (some .int), Cond.classLink RX2 59 "java/lang/IndexOutOfBoundsException", Cond.initialized "java/lang/IndexOutOfBoundsException", Cond.classLink RX2 66 "java/lang/IllegalArgumentException", Cond.initialized "java/lang/IllegalArgumentException", Cond.methodLink RX2 101 yX2_findLoan, Cond.instanceMethod yX2_findLoan, Cond.selects RX2 yX2_findLoan yX2_findLoan, Cond.code yX2_findLoan cX2_findLoan 2 (some (.object "FundBook$Loan")), Cond.fieldLink RX2 28 "FundBook" "loanRows" "[LFundBook$Loan;", Cond.instanceMethod yX0_customerInterest, Cond.initialized RX0, Cond.selects RX0 yX0_customerInterest yX0_customerInterest, Cond.code yX0_customerInterest cX0_customerInterest 1 (some .int), Cond.fieldLink RX0 18 "FundBook$Loan" "rate" "I", Cond.methodLink RX0 38 yX0_unpaid, Cond.instanceMethod yX0_unpaid, Cond.selects RX0 yX0_unpaid yX0_unpaid]
def wsL_bears_r2 : List Cond := [Cond.code yX0_unpaid cX0_unpaid 3 (some .int), Cond.fieldLink RX0 35 "FundBook$Loan" "paidParts" "I", Cond.fieldLink RX0 28 "FundBook$Loan" "parts" "[I", Cond.static yX2_forOneMonth, Cond.code yX2_forOneMonth cX2_forOneMonth 2 (some .int), Cond.constantLong RX2 187 (120000), Cond.instanceMethod yX0_funding, Cond.selects RX0 yX0_funding yX0_funding, Cond.code yX0_funding cX0_funding 4 (some .int), Cond.fieldLink RX0 32 "FundBook$Loan" "fundingRates" "[I", Cond.instanceMethod yX0_optionCharge, Cond.selects RX0 yX0_optionCharge yX0_optionCharge, Cond.code yX0_optionCharge cX0_optionCharge 1 (some .int), Cond.fieldLink RX0 25 "FundBook$Loan" "optionRate" "I", Cond.instanceMethod yX0_ownMargin, Cond.selects RX0 yX0_ownMargin yX0_ownMargin, Cond.code yX0_ownMargin cX0_ownMargin 1 (some .int), Cond.methodLink RX0 46 yX0_customerInterest, Cond.methodLink RX0 49 yX0_funding, Cond.methodLink RX0 52 yX0_optionCharge]
def wsL_bears : List Cond := .codeWith yL_bears cL_bears 5 (some .int) [(0, 10, 13, 13), (0, 10, 17, 15)] :: ((wsL_bears_r1 ++ wsL_bears_r2) ++ wsX20 ++ wsX00 ++ (vx_atS RX2 63 "java/lang/IndexOutOfBoundsException" ["java/lang/RuntimeException", "java/lang/Exception"]).filter goodWord ++ (vx_atS RX2 70 "java/lang/IllegalArgumentException" ["java/lang/RuntimeException", "java/lang/Exception"]).filter goodWord)
def wsL_due : List Cond := .codeWith yL_due cL_due 4 (some .int) [(0, 9, 12, 15)] :: ([.classLink RL 15 "java/lang/IllegalArgumentException", .methodLink RL 44 yX2_due, .instanceMethod yX2_due, .selects RX2 yX2_due yX2_due, .initialized RX2, .code yX2_due cX2_due 7 (some .int), .classLink RX2 66 "java/lang/IllegalArgumentException", .initialized "java/lang/IllegalArgumentException", .fieldLink RX2 28 "FundBook" "loanRows" "[LFundBook$Loan;", .instanceMethod yX0_partAhead, .initialized RX0, .selects RX0 yX0_partAhead yX0_partAhead, .code yX0_partAhead cX0_partAhead 3 (some .int), .fieldLink RX0 35 "FundBook$Loan" "paidParts" "I", .fieldLink RX0 28 "FundBook$Loan" "parts" "[I"] ++ wsX20 ++ wsX00 ++ (vx_atS RX2 70 "java/lang/IllegalArgumentException" ["java/lang/RuntimeException", "java/lang/Exception"]).filter goodWord)
def wsL_balance : List Cond := .codeWith yL_balance cL_balance 4 (some .int) [(0, 9, 12, 13)] :: ([.classLink RL 13 "java/lang/IndexOutOfBoundsException", .methodLink RL 47 yX2_balance, .instanceMethod yX2_balance, .selects RX2 yX2_balance yX2_balance, .initialized RX2, .code yX2_balance cX2_balance 2 (some .int), .classLink RX2 59 "java/lang/IndexOutOfBoundsException", .initialized "java/lang/IndexOutOfBoundsException", .fieldLink RX2 35 "FundBook" "balances" "[I"] ++ wsX20 ++ (vx_atS RX2 63 "java/lang/IndexOutOfBoundsException" ["java/lang/RuntimeException", "java/lang/Exception"]).filter goodWord)
def wsL_tranche : List Cond := .codeWith yL_tranche cL_tranche 4 (some .int) [(0, 9, 12, 13)] :: ([.classLink RL 13 "java/lang/IndexOutOfBoundsException", .methodLink RL 50 yX2_tranche, .instanceMethod yX2_tranche, .selects RX2 yX2_tranche yX2_tranche, .initialized RX2, .code yX2_tranche cX2_tranche 2 (some .int), .classLink RX2 59 "java/lang/IndexOutOfBoundsException", .initialized "java/lang/IndexOutOfBoundsException", .fieldLink RX2 41 "FundBook" "replica" "LFundBook$Replica;"] ++ wsX20 ++ wsX10 ++ (vx_atS RX2 63 "java/lang/IndexOutOfBoundsException" ["java/lang/RuntimeException", "java/lang/Exception"]).filter goodWord)
def wsL_margin : List Cond := .codeWith yL_margin cL_margin 5 (some .int) [(0, 10, 13, 13)] :: ([.classLink RL 13 "java/lang/IndexOutOfBoundsException", .methodLink RL 53 yX2_margin, .instanceMethod yX2_margin, .selects RX2 yX2_margin yX2_margin, .initialized RX2, .code yX2_margin cX2_margin 3 (some .int), .classLink RX2 59 "java/lang/IndexOutOfBoundsException", .initialized "java/lang/IndexOutOfBoundsException", .fieldLink RX2 47 "FundBook" "branchMargins" "[[I", .methodLink RX2 177 yX2_hasEnded, .instanceMethod yX2_hasEnded, .selects RX2 yX2_hasEnded yX2_hasEnded, .code yX2_hasEnded cX2_hasEnded 2 (some .boolean), .fieldLink RX2 23 "FundBook" "now" "I"] ++ wsX20 ++ (vx_atS RX2 63 "java/lang/IndexOutOfBoundsException" ["java/lang/RuntimeException", "java/lang/Exception"]).filter goodWord)
def wsL_byProduct : List Cond := .codeWith yL_byProduct cL_byProduct 5 (some .int) [(0, 10, 13, 13)] :: ([.classLink RL 13 "java/lang/IndexOutOfBoundsException", .methodLink RL 56 yX2_byProduct, .instanceMethod yX2_byProduct, .selects RX2 yX2_byProduct yX2_byProduct, .initialized RX2, .code yX2_byProduct cX2_byProduct 3 (some .int), .classLink RX2 59 "java/lang/IndexOutOfBoundsException", .initialized "java/lang/IndexOutOfBoundsException", .fieldLink RX2 50 "FundBook" "productMargins" "[[I", .methodLink RX2 177 yX2_hasEnded, .instanceMethod yX2_hasEnded, .selects RX2 yX2_hasEnded yX2_hasEnded, .code yX2_hasEnded cX2_hasEnded 2 (some .boolean), .fieldLink RX2 23 "FundBook" "now" "I"] ++ wsX20 ++ (vx_atS RX2 63 "java/lang/IndexOutOfBoundsException" ["java/lang/RuntimeException", "java/lang/Exception"]).filter goodWord)
def wsL_treasury : List Cond := .codeWith yL_treasury cL_treasury 4 (some .int) [(0, 9, 12, 13)] :: ([.classLink RL 13 "java/lang/IndexOutOfBoundsException", .methodLink RL 59 yX2_treasury, .instanceMethod yX2_treasury, .selects RX2 yX2_treasury yX2_treasury, .initialized RX2, .code yX2_treasury cX2_treasury 2 (some .int), .classLink RX2 59 "java/lang/IndexOutOfBoundsException", .initialized "java/lang/IndexOutOfBoundsException", .fieldLink RX2 53 "FundBook" "treasuryMargins" "[I", .methodLink RX2 177 yX2_hasEnded, .instanceMethod yX2_hasEnded, .selects RX2 yX2_hasEnded yX2_hasEnded, .code yX2_hasEnded cX2_hasEnded 2 (some .boolean), .fieldLink RX2 23 "FundBook" "now" "I"] ++ wsX20 ++ (vx_atS RX2 63 "java/lang/IndexOutOfBoundsException" ["java/lang/RuntimeException", "java/lang/Exception"]).filter goodWord)
def wsL_interest : List Cond := .codeWith yL_interest cL_interest 4 (some .int) [(0, 9, 12, 13)] :: ([.classLink RL 13 "java/lang/IndexOutOfBoundsException", .methodLink RL 62 yX2_interest, .instanceMethod yX2_interest, .selects RX2 yX2_interest yX2_interest, .initialized RX2, .code yX2_interest cX2_interest 2 (some .int), .classLink RX2 59 "java/lang/IndexOutOfBoundsException", .initialized "java/lang/IndexOutOfBoundsException", .fieldLink RX2 56 "FundBook" "bankInterests" "[I", .methodLink RX2 177 yX2_hasEnded, .instanceMethod yX2_hasEnded, .selects RX2 yX2_hasEnded yX2_hasEnded, .code yX2_hasEnded cX2_hasEnded 2 (some .boolean), .fieldLink RX2 23 "FundBook" "now" "I"] ++ wsX20 ++ (vx_atS RX2 63 "java/lang/IndexOutOfBoundsException" ["java/lang/RuntimeException", "java/lang/Exception"]).filter goodWord)
def wsL_law0_r1 : List Cond := [Cond.classLink RL 8 RX2, Cond.instantiable RX2 13, Cond.initialized RX2, Cond.classLink RL 66 RX3, Cond.instantiable RX3 22, Cond.initialized RX3, Cond.arrayClass .long, Cond.methodLink RL 65 yX2_init, Cond.instanceMethod yX2_init, Cond.code yX2_init cX2_init 1 none, Cond.methodLink RX2 1 objectInit, Cond.instanceMethod objectInit, Cond.code objectInit ⟨#[0xb1]⟩ 1 none, Cond.arrayClass .int, Cond.fieldLink RX2 9 "FundBook" "curve" "[I", Cond.fieldLink RX2 13 "FundBook" "depositRate" "I", Cond.fieldLink RX2 17 "FundBook" "optionRate" "I", Cond.fieldLink RX2 20 "FundBook" "coreShare" "I", Cond.fieldLink RX2 23 "FundBook" "now" "I", Cond.classLink RX2 26 RX0, Cond.fieldLink RX2 28 "FundBook" "loanRows" "[LFundBook$Loan;", Cond.fieldLink RX2 32 "FundBook" "loanCount" "I", Cond.fieldLink RX2 35 "FundBook" "balances" "[I", Cond.classLink RX2 38 RX1]
def wsL_law0_r2 : List Cond := [Cond.instantiable RX1 2, Cond.initialized RX1, Cond.fieldLink RX2 41 "FundBook" "replica" "LFundBook$Replica;", Cond.classLink RX2 45 "[[I", Cond.fieldLink RX2 47 "FundBook" "branchMargins" "[[I", Cond.fieldLink RX2 50 "FundBook" "productMargins" "[[I", Cond.fieldLink RX2 53 "FundBook" "treasuryMargins" "[I", Cond.fieldLink RX2 56 "FundBook" "bankInterests" "[I", Cond.instanceMethod yX1_init, Cond.code yX1_init cX1_init 1 none, Cond.methodLink RX1 3 objectInit, Cond.fieldLink RX1 9 "FundBook$Replica" "amounts" "[I", Cond.fieldLink RX1 15 "FundBook$Replica" "rates" "[I", Cond.methodLink RL 68 yX3_init, Cond.instanceMethod yX3_init, Cond.code yX3_init cX3_init 1 none, Cond.methodLink RX3 1 objectInit, Cond.fieldLink RX3 7 "FundBookModel" "curve" "[I", Cond.fieldLink RX3 13 "FundBookModel" "share" "I", Cond.fieldLink RX3 17 "FundBookModel" "branch" "[I", Cond.fieldLink RX3 20 "FundBookModel" "product" "[I", Cond.fieldLink RX3 23 "FundBookModel" "customers" "[I", Cond.fieldLink RX3 26 "FundBookModel" "option" "[I", Cond.arrayClass .boolean]
def wsL_law0_r3 : List Cond := [Cond.fieldLink RX3 29 "FundBookModel" "hasOption" "[Z", Cond.fieldLink RX3 33 "FundBookModel" "born" "[I", Cond.fieldLink RX3 36 "FundBookModel" "part" "[I", Cond.fieldLink RX3 39 "FundBookModel" "funded" "[I", Cond.fieldLink RX3 42 "FundBookModel" "balance" "[I", Cond.fieldLink RX3 45 "FundBookModel" "tranche" "[I", Cond.fieldLink RX3 48 "FundBookModel" "laidAt" "[I", Cond.fieldLink RX3 51 "FundBookModel" "margins" "[I", Cond.fieldLink RX3 54 "FundBookModel" "products" "[I", Cond.fieldLink RX3 57 "FundBookModel" "treasuries" "[I", Cond.fieldLink RX3 60 "FundBookModel" "interests" "[I", Cond.methodLink RL 69 yL_setCurve, Cond.static yL_setCurve, Cond.initialized RL, Cond.codeWith yL_setCurve cL_setCurve 5 (some .int) [(0, 10, 13, 13), (0, 10, 17, 15)], Cond.classLink RL 13 "java/lang/IndexOutOfBoundsException", Cond.classLink RL 15 "java/lang/IllegalArgumentException", Cond.methodLink RL 7 yX2_setCurve, Cond.instanceMethod yX2_setCurve, Cond.selects RX2 yX2_setCurve yX2_setCurve, Cond.code yX2_setCurve cX2_setCurve 4 (some .int), Cond.classLink RX2 59 "java/lang/IndexOutOfBoundsException", Cond.initialized "java/lang/IndexOutOfBoundsException", Cond.classLink RX2 66 "java/lang/IllegalArgumentException"]
def wsL_law0_r4 : List Cond := [Cond.initialized "java/lang/IllegalArgumentException", Cond.methodLink RL 74 yX3_setCurve, Cond.instanceMethod yX3_setCurve, Cond.selects RX3 yX3_setCurve yX3_setCurve, Cond.code yX3_setCurve cX3_setCurve 4 (some .int), Cond.fieldLink RX3 63 "FundBookModel" "thrown" "I", Cond.methodLink RX3 69 yX3_in, Cond.static yX3_in, Cond.code yX3_in cX3_in 3 (some .boolean), Cond.methodLink RX3 76 yX3_fails, Cond.instanceMethod yX3_fails, Cond.selects RX3 yX3_fails yX3_fails, Cond.code yX3_fails cX3_fails 2 (some .int), Cond.methodLink RL 75 yX3_thrown, Cond.instanceMethod yX3_thrown, Cond.selects RX3 yX3_thrown yX3_thrown, Cond.code yX3_thrown cX3_thrown 1 (some .int), Cond.methodLink RL 78 yL_setRates, Cond.static yL_setRates, Cond.codeWith yL_setRates cL_setRates 5 (some .int) [(0, 7, 10, 15)], Cond.methodLink RL 17 yX2_setRates, Cond.instanceMethod yX2_setRates, Cond.selects RX2 yX2_setRates yX2_setRates, Cond.code yX2_setRates cX2_setRates 4 none]
def wsL_law0_r5 : List Cond := [Cond.methodLink RL 81 yX3_setRates, Cond.instanceMethod yX3_setRates, Cond.selects RX3 yX3_setRates yX3_setRates, Cond.code yX3_setRates cX3_setRates 4 none, Cond.fieldLink RX3 80 "FundBookModel" "depositRate" "I", Cond.fieldLink RX3 83 "FundBookModel" "optionRate" "I", Cond.methodLink RL 82 yL_lend, Cond.static yL_lend, Cond.codeWith yL_lend cL_lend 9 (some .int) [(0, 18, 21, 13), (0, 18, 25, 15), (0, 18, 29, 25)], Cond.classLink RL 25 "java/lang/IllegalStateException", Cond.methodLink RL 21 yX2_lend, Cond.instanceMethod yX2_lend, Cond.selects RX2 yX2_lend yX2_lend, Cond.code yX2_lend cX2_lend 10 (some .int), Cond.classLink RX2 84 "java/lang/IllegalStateException", Cond.initialized "java/lang/IllegalStateException", Cond.constant RX2 79 (10000000), Cond.instantiable RX0 8, Cond.initialized RX0, Cond.methodLink RX2 93 ⟨"[I", "clone", "()Ljava/lang/Object;"⟩, Cond.sameMethod "[I" "java/lang/Object" "clone" "()Ljava/lang/Object;", Cond.native ⟨"java/lang/Object", "clone", "()Ljava/lang/Object;"⟩, Cond.instanceMethod ⟨"java/lang/Object", "clone", "()Ljava/lang/Object;"⟩, Cond.selects "[I" ⟨"[I", "clone", "()Ljava/lang/Object;"⟩ ⟨"java/lang/Object", "clone", "()Ljava/lang/Object;"⟩]
def wsL_law0_r6 : List Cond := [Cond.classLink RX2 94 "[I", Cond.methodLink RX2 89 yX2_cutIntoParts, Cond.static yX2_cutIntoParts, Cond.code yX2_cutIntoParts cX2_cutIntoParts 5 (some (.array .int)), Cond.instanceMethod yX0_init, Cond.code yX0_init cX0_init 8 none, Cond.methodLink RX0 3 objectInit, Cond.fieldLink RX0 9 "FundBook$Loan" "branch" "I", Cond.fieldLink RX0 15 "FundBook$Loan" "product" "I", Cond.fieldLink RX0 18 "FundBook$Loan" "rate" "I", Cond.fieldLink RX0 21 "FundBook$Loan" "hasOption" "Z", Cond.fieldLink RX0 25 "FundBook$Loan" "optionRate" "I", Cond.fieldLink RX0 28 "FundBook$Loan" "parts" "[I", Cond.fieldLink RX0 32 "FundBook$Loan" "fundingRates" "[I", Cond.fieldLink RX0 35 "FundBook$Loan" "paidParts" "I", Cond.methodLink RL 85 yX3_lend, Cond.instanceMethod yX3_lend, Cond.selects RX3 yX3_lend yX3_lend, Cond.code yX3_lend cX3_lend 8 (some .int), Cond.constant RX3 95 (10000000), Cond.fieldLink RX3 66 "FundBookModel" "loans" "I", Cond.fieldLink RX3 73 "FundBookModel" "now" "I", Cond.methodLink RX3 91 yX3_isBranch, Cond.static yX3_isBranch]
def wsL_law0_r7 : List Cond := [Cond.code yX3_isBranch cX3_isBranch 1 (some .boolean), Cond.methodLink RL 86 yL_repay, Cond.static yL_repay, Cond.codeWith yL_repay cL_repay 4 (some .int) [(0, 9, 12, 13), (0, 9, 15, 25)], Cond.methodLink RL 27 yX2_repay, Cond.instanceMethod yX2_repay, Cond.selects RX2 yX2_repay yX2_repay, Cond.code yX2_repay cX2_repay 4 (some .int), Cond.methodLink RX2 101 yX2_findLoan, Cond.instanceMethod yX2_findLoan, Cond.selects RX2 yX2_findLoan yX2_findLoan, Cond.code yX2_findLoan cX2_findLoan 2 (some (.object "FundBook$Loan")), Cond.instanceMethod yX0_unpaid, Cond.selects RX0 yX0_unpaid yX0_unpaid, Cond.code yX0_unpaid cX0_unpaid 3 (some .int), Cond.instanceMethod yX0_settle, Cond.selects RX0 yX0_settle yX0_settle, Cond.code yX0_settle cX0_settle 1 none, Cond.methodLink RL 89 yX3_repay, Cond.instanceMethod yX3_repay, Cond.selects RX3 yX3_repay yX3_repay, Cond.code yX3_repay cX3_repay 4 (some .int), Cond.methodLink RX3 96 yX3_isLoan, Cond.instanceMethod yX3_isLoan]
def wsL_law0_r8 : List Cond := [Cond.selects RX3 yX3_isLoan yX3_isLoan, Cond.code yX3_isLoan cX3_isLoan 2 (some .boolean), Cond.methodLink RX3 86 yX3_leftOf, Cond.instanceMethod yX3_leftOf, Cond.selects RX3 yX3_leftOf yX3_leftOf, Cond.code yX3_leftOf cX3_leftOf 4 (some .int), Cond.methodLink RL 90 yL_deposit, Cond.static yL_deposit, Cond.codeWith yL_deposit cL_deposit 5 (some .int) [(0, 10, 13, 13), (0, 10, 17, 15), (0, 10, 21, 25)], Cond.methodLink RL 31 yX2_deposit, Cond.instanceMethod yX2_deposit, Cond.selects RX2 yX2_deposit yX2_deposit, Cond.code yX2_deposit cX2_deposit 4 (some .int), Cond.constant RX2 122 (-10000000), Cond.methodLink RX2 127 yX2_trancheAmount, Cond.instanceMethod yX2_trancheAmount, Cond.selects RX2 yX2_trancheAmount yX2_trancheAmount, Cond.code yX2_trancheAmount cX2_trancheAmount 7 (some .int), Cond.methodLink RX2 191 yX2_coreOf, Cond.instanceMethod yX2_coreOf, Cond.selects RX2 yX2_coreOf yX2_coreOf, Cond.code yX2_coreOf cX2_coreOf 3 (some .int), Cond.constantLong RX2 189 (100), Cond.instanceMethod yX1_layAll]
def wsL_law0_r9 : List Cond := [Cond.selects RX1 yX1_layAll yX1_layAll, Cond.code yX1_layAll cX1_layAll 4 none, Cond.methodLink RX1 18 yX1_lay, Cond.instanceMethod yX1_lay, Cond.selects RX1 yX1_lay yX1_lay, Cond.code yX1_lay cX1_lay 4 none, Cond.methodLink RL 92 yX3_deposit, Cond.instanceMethod yX3_deposit, Cond.selects RX3 yX3_deposit yX3_deposit, Cond.code yX3_deposit cX3_deposit 4 (some .int), Cond.constant RX3 105 (-10000000), Cond.methodLink RX3 106 yX3_lays, Cond.instanceMethod yX3_lays, Cond.selects RX3 yX3_lays yX3_lays, Cond.code yX3_lays cX3_lays 2 none, Cond.methodLink RX3 101 yX3_core, Cond.instanceMethod yX3_core, Cond.selects RX3 yX3_core yX3_core, Cond.code yX3_core cX3_core 4 (some .int), Cond.constantLong RX3 99 (100), Cond.methodLink RL 93 yL_closeMonth, Cond.static yL_closeMonth, Cond.codeWith yL_closeMonth cL_closeMonth 3 (some .int) [(0, 8, 11, 25)], Cond.methodLink RL 34 yX2_closeMonth]
def wsL_law0_r10 : List Cond := [Cond.instanceMethod yX2_closeMonth, Cond.selects RX2 yX2_closeMonth yX2_closeMonth, Cond.code yX2_closeMonth cX2_closeMonth 1 (some .int), Cond.methodLink RX2 136 yX2_reckonLoans, Cond.instanceMethod yX2_reckonLoans, Cond.selects RX2 yX2_reckonLoans yX2_reckonLoans, Cond.code yX2_reckonLoans cX2_reckonLoans 7 none, Cond.methodLink RX2 195 yX2_loanMarginsOfBranch, Cond.instanceMethod yX2_loanMarginsOfBranch, Cond.selects RX2 yX2_loanMarginsOfBranch yX2_loanMarginsOfBranch, Cond.code yX2_loanMarginsOfBranch cX2_loanMarginsOfBranch 7 (some .int), Cond.instanceMethod yX0_ownMargin, Cond.selects RX0 yX0_ownMargin yX0_ownMargin, Cond.code yX0_ownMargin cX0_ownMargin 1 (some .int), Cond.methodLink RX0 46 yX0_customerInterest, Cond.instanceMethod yX0_customerInterest, Cond.selects RX0 yX0_customerInterest yX0_customerInterest, Cond.code yX0_customerInterest cX0_customerInterest 1 (some .int), Cond.methodLink RX0 38 yX0_unpaid, Cond.static yX2_forOneMonth, Cond.code yX2_forOneMonth cX2_forOneMonth 2 (some .int), Cond.constantLong RX2 187 (120000), Cond.methodLink RX0 49 yX0_funding, Cond.instanceMethod yX0_funding]
def wsL_law0_r11 : List Cond := [Cond.selects RX0 yX0_funding yX0_funding, Cond.code yX0_funding cX0_funding 4 (some .int), Cond.methodLink RX0 52 yX0_optionCharge, Cond.instanceMethod yX0_optionCharge, Cond.selects RX0 yX0_optionCharge yX0_optionCharge, Cond.code yX0_optionCharge cX0_optionCharge 1 (some .int), Cond.methodLink RX2 198 yX2_loanMarginsOfProduct, Cond.instanceMethod yX2_loanMarginsOfProduct, Cond.selects RX2 yX2_loanMarginsOfProduct yX2_loanMarginsOfProduct, Cond.code yX2_loanMarginsOfProduct cX2_loanMarginsOfProduct 7 (some .int), Cond.methodLink RX2 139 yX2_reckonDeposits, Cond.instanceMethod yX2_reckonDeposits, Cond.selects RX2 yX2_reckonDeposits yX2_reckonDeposits, Cond.code yX2_reckonDeposits cX2_reckonDeposits 5 none, Cond.instanceMethod yX1_averageRate, Cond.selects RX1 yX1_averageRate yX1_averageRate, Cond.code yX1_averageRate cX1_averageRate 6 (some .int), Cond.methodLink RX2 207 yX2_paidForDeposits, Cond.instanceMethod yX2_paidForDeposits, Cond.selects RX2 yX2_paidForDeposits yX2_paidForDeposits, Cond.code yX2_paidForDeposits cX2_paidForDeposits 5 (some .int), Cond.methodLink RX2 211 yX2_forOneMonth, Cond.methodLink RX2 142 yX2_payParts, Cond.instanceMethod yX2_payParts]
def wsL_law0_r12 : List Cond := [Cond.selects RX2 yX2_payParts yX2_payParts, Cond.code yX2_payParts cX2_payParts 5 none, Cond.instanceMethod yX0_payPart, Cond.selects RX0 yX0_payPart yX0_payPart, Cond.code yX0_payPart cX0_payPart 1 none, Cond.methodLink RL 96 yX3_closeMonth, Cond.instanceMethod yX3_closeMonth, Cond.selects RX3 yX3_closeMonth yX3_closeMonth, Cond.code yX3_closeMonth cX3_closeMonth 4 (some .int), Cond.methodLink RX3 113 yX3_bear, Cond.instanceMethod yX3_bear, Cond.selects RX3 yX3_bear yX3_bear, Cond.code yX3_bear cX3_bear 10 (some .int), Cond.constantLong RX3 89 (120000), Cond.methodLink RX3 117 yX3_isPaid, Cond.instanceMethod yX3_isPaid, Cond.selects RX3 yX3_isPaid yX3_isPaid, Cond.code yX3_isPaid cX3_isPaid 4 (some .int), Cond.methodLink RX3 110 yX3_replica, Cond.instanceMethod yX3_replica, Cond.selects RX3 yX3_replica yX3_replica, Cond.code yX3_replica cX3_replica 6 (some .int), Cond.methodLink RX3 120 yX3_pays, Cond.instanceMethod yX3_pays]
def wsL_law0_r13 : List Cond := [Cond.selects RX3 yX3_pays yX3_pays, Cond.code yX3_pays cX3_pays 2 (some .int), Cond.methodLink RL 97 yX2_month, Cond.instanceMethod yX2_month, Cond.selects RX2 yX2_month yX2_month, Cond.code yX2_month cX2_month 1 (some .int), Cond.methodLink RL 100 yX3_month, Cond.instanceMethod yX3_month, Cond.selects RX3 yX3_month yX3_month, Cond.code yX3_month cX3_month 1 (some .int), Cond.methodLink RL 101 yX2_loans, Cond.instanceMethod yX2_loans, Cond.selects RX2 yX2_loans yX2_loans, Cond.code yX2_loans cX2_loans 1 (some .int), Cond.methodLink RL 104 yX3_loans, Cond.instanceMethod yX3_loans, Cond.selects RX3 yX3_loans yX3_loans, Cond.code yX3_loans cX3_loans 1 (some .int), Cond.methodLink RL 105 yL_left, Cond.static yL_left, Cond.codeWith yL_left cL_left 4 (some .int) [(0, 9, 12, 13)], Cond.methodLink RL 38 yX2_left, Cond.instanceMethod yX2_left, Cond.selects RX2 yX2_left yX2_left]
def wsL_law0_r14 : List Cond := [Cond.code yX2_left cX2_left 3 (some .int), Cond.methodLink RL 107 yX3_left, Cond.instanceMethod yX3_left, Cond.selects RX3 yX3_left yX3_left, Cond.code yX3_left cX3_left 2 (some .int), Cond.methodLink RL 108 yL_bears, Cond.static yL_bears, Cond.codeWith yL_bears cL_bears 5 (some .int) [(0, 10, 13, 13), (0, 10, 17, 15)], Cond.methodLink RL 41 yX2_bears, Cond.instanceMethod yX2_bears, Cond.selects RX2 yX2_bears yX2_bears, Cond.code yX2_bears cX2_bears 4 (some .int), Cond.methodLink RL 110 yX3_bears, Cond.instanceMethod yX3_bears, Cond.selects RX3 yX3_bears yX3_bears, Cond.code yX3_bears cX3_bears 3 (some .int), Cond.methodLink RL 111 yL_due, Cond.static yL_due, Cond.codeWith yL_due cL_due 4 (some .int) [(0, 9, 12, 15)], Cond.methodLink RL 44 yX2_due, Cond.instanceMethod yX2_due, Cond.selects RX2 yX2_due yX2_due, Cond.code yX2_due cX2_due 7 (some .int), Cond.instanceMethod yX0_partAhead]
def wsL_law0_r15 : List Cond := [Cond.selects RX0 yX0_partAhead yX0_partAhead, Cond.code yX0_partAhead cX0_partAhead 3 (some .int), Cond.methodLink RL 113 yX3_due, Cond.instanceMethod yX3_due, Cond.selects RX3 yX3_due yX3_due, Cond.code yX3_due cX3_due 5 (some .int), Cond.methodLink RL 114 yL_balance, Cond.static yL_balance, Cond.codeWith yL_balance cL_balance 4 (some .int) [(0, 9, 12, 13)], Cond.methodLink RL 47 yX2_balance, Cond.instanceMethod yX2_balance, Cond.selects RX2 yX2_balance yX2_balance, Cond.code yX2_balance cX2_balance 2 (some .int), Cond.methodLink RL 116 yX3_balance, Cond.instanceMethod yX3_balance, Cond.selects RX3 yX3_balance yX3_balance, Cond.code yX3_balance cX3_balance 2 (some .int), Cond.methodLink RL 117 yL_tranche, Cond.static yL_tranche, Cond.codeWith yL_tranche cL_tranche 4 (some .int) [(0, 9, 12, 13)], Cond.methodLink RL 50 yX2_tranche, Cond.instanceMethod yX2_tranche, Cond.selects RX2 yX2_tranche yX2_tranche, Cond.code yX2_tranche cX2_tranche 2 (some .int)]
def wsL_law0_r16 : List Cond := [Cond.methodLink RL 119 yX3_tranche, Cond.instanceMethod yX3_tranche, Cond.selects RX3 yX3_tranche yX3_tranche, Cond.code yX3_tranche cX3_tranche 2 (some .int), Cond.methodLink RL 120 yX2_replicaRate, Cond.instanceMethod yX2_replicaRate, Cond.selects RX2 yX2_replicaRate yX2_replicaRate, Cond.code yX2_replicaRate cX2_replicaRate 1 (some .int), Cond.methodLink RL 123 yX3_replicaRate, Cond.instanceMethod yX3_replicaRate, Cond.selects RX3 yX3_replicaRate yX3_replicaRate, Cond.code yX3_replicaRate cX3_replicaRate 1 (some .int), Cond.methodLink RL 124 yL_margin, Cond.static yL_margin, Cond.codeWith yL_margin cL_margin 5 (some .int) [(0, 10, 13, 13)], Cond.methodLink RL 53 yX2_margin, Cond.instanceMethod yX2_margin, Cond.selects RX2 yX2_margin yX2_margin, Cond.code yX2_margin cX2_margin 3 (some .int), Cond.methodLink RX2 177 yX2_hasEnded, Cond.instanceMethod yX2_hasEnded, Cond.selects RX2 yX2_hasEnded yX2_hasEnded, Cond.code yX2_hasEnded cX2_hasEnded 2 (some .boolean), Cond.methodLink RL 126 yX3_margin]
def wsL_law0_r17 : List Cond := [Cond.instanceMethod yX3_margin, Cond.selects RX3 yX3_margin yX3_margin, Cond.code yX3_margin cX3_margin 3 (some .int), Cond.methodLink RX3 123 yX3_isEnded, Cond.instanceMethod yX3_isEnded, Cond.selects RX3 yX3_isEnded yX3_isEnded, Cond.code yX3_isEnded cX3_isEnded 2 (some .boolean), Cond.methodLink RL 127 yL_byProduct, Cond.static yL_byProduct, Cond.codeWith yL_byProduct cL_byProduct 5 (some .int) [(0, 10, 13, 13)], Cond.methodLink RL 56 yX2_byProduct, Cond.instanceMethod yX2_byProduct, Cond.selects RX2 yX2_byProduct yX2_byProduct, Cond.code yX2_byProduct cX2_byProduct 3 (some .int), Cond.methodLink RL 129 yX3_byProduct, Cond.instanceMethod yX3_byProduct, Cond.selects RX3 yX3_byProduct yX3_byProduct, Cond.code yX3_byProduct cX3_byProduct 3 (some .int), Cond.methodLink RL 130 yL_treasury, Cond.static yL_treasury, Cond.codeWith yL_treasury cL_treasury 4 (some .int) [(0, 9, 12, 13)], Cond.methodLink RL 59 yX2_treasury, Cond.instanceMethod yX2_treasury, Cond.selects RX2 yX2_treasury yX2_treasury]
def wsL_law0_r18 : List Cond := [Cond.code yX2_treasury cX2_treasury 2 (some .int), Cond.methodLink RL 132 yX3_treasury, Cond.instanceMethod yX3_treasury, Cond.selects RX3 yX3_treasury yX3_treasury, Cond.code yX3_treasury cX3_treasury 2 (some .int), Cond.methodLink RL 133 yL_interest, Cond.static yL_interest, Cond.codeWith yL_interest cL_interest 4 (some .int) [(0, 9, 12, 13)], Cond.methodLink RL 62 yX2_interest, Cond.instanceMethod yX2_interest, Cond.selects RX2 yX2_interest yX2_interest, Cond.code yX2_interest cX2_interest 2 (some .int), Cond.methodLink RL 135 yX3_interest, Cond.instanceMethod yX3_interest, Cond.selects RX3 yX3_interest yX3_interest, Cond.code yX3_interest cX3_interest 2 (some .int)]
def wsL_law0 : List Cond := (wsL_law0_r1 ++ (wsL_law0_r2 ++ (wsL_law0_r3 ++ (wsL_law0_r4 ++ (wsL_law0_r5 ++ (wsL_law0_r6 ++ (wsL_law0_r7 ++ (wsL_law0_r8 ++ (wsL_law0_r9 ++ (wsL_law0_r10 ++ (wsL_law0_r11 ++ (wsL_law0_r12 ++ (wsL_law0_r13 ++ (wsL_law0_r14 ++ (wsL_law0_r15 ++ (wsL_law0_r16 ++ (wsL_law0_r17 ++ wsL_law0_r18))))))))))))))))) ++ wsX20 ++ wsX30 ++ wsX10 ++ wsX00 ++ ([] : List Cond)
def wsL_law : List Cond := wsL_law0 ++ (vx_atS RX2 63 "java/lang/IndexOutOfBoundsException" ["java/lang/RuntimeException", "java/lang/Exception"]).filter goodWord ++ (vx_atS RX2 70 "java/lang/IllegalArgumentException" ["java/lang/RuntimeException", "java/lang/Exception"]).filter goodWord ++ (vx_atS RX2 88 "java/lang/IllegalStateException" ["java/lang/RuntimeException", "java/lang/Exception"]).filter goodWord
abbrev vwCl : List vw_C := [(RX0, TX0, 8), (RX1, TX1, 2), (RX2, TX2, 13), (RX3, TX3, 22)]
end
section
theorem mem_pl {big : List Cond} (ws : List Cond) (ps : List Nat) (hp : ws = ps.filterMap (fun i => big[i]?)) : ∀ w ∈ ws, w ∈ big := by
  intro w hw
  rw [hp] at hw
  obtain ⟨i, -, hi⟩ := List.mem_filterMap.mp hw
  exact List.mem_of_getElem? hi
set_option maxRecDepth 100000 in
theorem in_wsL_law0_r1 : ∀ w ∈ wsL_law0_r1, w ∈ lw_tbl := mem_pl _ [43, 44, 33, 488, 489, 35, 688, 45, 46, 47, 48, 49, 50, 67, 70, 71, 72, 73, 74, 51, 75, 76, 77, 53] (by rfl)
set_option maxRecDepth 100000 in
theorem in_wsL_law0_r2 : ∀ w ∈ wsL_law0_r2, w ∈ lw_tbl := mem_pl _ [54, 34, 78, 68, 79, 80, 81, 82, 56, 57, 58, 59, 61, 490, 491, 492, 493, 496, 499, 501, 502, 503, 504, 561] (by rfl)
set_option maxRecDepth 100000 in
theorem in_wsL_law0_r3 : ∀ w ∈ wsL_law0_r3, w ∈ lw_tbl := mem_pl _ [505, 506, 507, 508, 509, 510, 511, 512, 513, 514, 515, 126, 127, 32, 128, 129, 130, 131, 132, 133, 134, 135, 39, 203] (by rfl)
set_option maxRecDepth 100000 in
theorem in_wsL_law0_r4 : ∀ w ∈ wsL_law0_r4, w ∈ lw_tbl := mem_pl _ [40, 566, 567, 568, 569, 494, 570, 571, 572, 573, 575, 22, 576, 562, 563, 564, 565, 219, 220, 221, 222, 223, 224, 225] (by rfl)
set_option maxRecDepth 100000 in
theorem in_wsL_law0_r5 : ∀ w ∈ wsL_law0_r5, w ∈ lw_tbl := mem_pl _ [577, 578, 579, 580, 497, 498, 229, 230, 231, 232, 233, 234, 235, 236, 241, 41, 238, 260, 42, 261, 262, 263, 264, 265] (by rfl)
set_option maxRecDepth 100000 in
theorem in_wsL_law0_r6 : ∀ w ∈ wsL_law0_r6, w ∈ lw_tbl := mem_pl _ [267, 257, 258, 259, 269, 270, 271, 272, 274, 276, 277, 279, 280, 281, 282, 581, 582, 583, 584, 588, 500, 495, 585, 586] (by rfl)
set_option maxRecDepth 100000 in
theorem in_wsL_law0_r7 : ∀ w ∈ wsL_law0_r7, w ∈ lw_tbl := mem_pl _ [587, 300, 301, 302, 303, 304, 305, 306, 307, 309, 2, 310, 314, 3, 315, 319, 4, 320, 589, 590, 591, 592, 593, 595] (by rfl)
set_option maxRecDepth 100000 in
theorem in_wsL_law0_r8 : ∀ w ∈ wsL_law0_r8, w ∈ lw_tbl := mem_pl _ [23, 596, 597, 599, 24, 600, 321, 322, 323, 324, 325, 326, 327, 329, 332, 334, 5, 335, 336, 338, 6, 339, 340, 343] (by rfl)
set_option maxRecDepth 100000 in
theorem in_wsL_law0_r9 : ∀ w ∈ wsL_law0_r9, w ∈ lw_tbl := mem_pl _ [7, 344, 345, 347, 8, 348, 601, 602, 603, 604, 605, 606, 608, 25, 609, 610, 612, 26, 613, 614, 349, 350, 351, 352] (by rfl)
set_option maxRecDepth 100000 in
theorem in_wsL_law0_r10 : ∀ w ∈ wsL_law0_r10, w ∈ lw_tbl := mem_pl _ [353, 354, 355, 357, 359, 9, 360, 361, 363, 10, 364, 367, 11, 368, 369, 371, 12, 372, 373, 375, 376, 377, 378, 380] (by rfl)
set_option maxRecDepth 100000 in
theorem in_wsL_law0_r11 : ∀ w ∈ wsL_law0_r11, w ∈ lw_tbl := mem_pl _ [13, 381, 382, 384, 14, 385, 386, 388, 15, 389, 393, 395, 16, 396, 124, 0, 125, 397, 399, 17, 400, 401, 402, 404] (by rfl)
set_option maxRecDepth 100000 in
theorem in_wsL_law0_r12 : ∀ w ∈ wsL_law0_r12, w ∈ lw_tbl := mem_pl _ [18, 405, 408, 19, 409, 615, 616, 617, 618, 619, 621, 27, 622, 623, 624, 626, 28, 627, 628, 630, 29, 631, 632, 634] (by rfl)
set_option maxRecDepth 100000 in
theorem in_wsL_law0_r13 : ∀ w ∈ wsL_law0_r13, w ∈ lw_tbl := mem_pl _ [30, 635, 110, 111, 112, 113, 636, 637, 638, 639, 114, 115, 116, 117, 640, 641, 642, 643, 411, 412, 413, 414, 415, 416] (by rfl)
set_option maxRecDepth 100000 in
theorem in_wsL_law0_r14 : ∀ w ∈ wsL_law0_r14, w ∈ lw_tbl := mem_pl _ [417, 644, 645, 646, 647, 418, 419, 420, 421, 422, 423, 424, 648, 649, 650, 651, 426, 427, 428, 429, 430, 431, 432, 436] (by rfl)
set_option maxRecDepth 100000 in
theorem in_wsL_law0_r15 : ∀ w ∈ wsL_law0_r15, w ∈ lw_tbl := mem_pl _ [20, 437, 652, 653, 654, 655, 438, 439, 440, 441, 442, 443, 444, 656, 657, 658, 659, 445, 446, 447, 448, 449, 450, 451] (by rfl)
set_option maxRecDepth 100000 in
theorem in_wsL_law0_r16 : ∀ w ∈ wsL_law0_r16, w ∈ lw_tbl := mem_pl _ [660, 661, 662, 663, 118, 119, 120, 121, 664, 665, 666, 667, 453, 454, 455, 456, 457, 458, 459, 460, 462, 21, 463, 668] (by rfl)
set_option maxRecDepth 100000 in
theorem in_wsL_law0_r17 : ∀ w ∈ wsL_law0_r17, w ∈ lw_tbl := mem_pl _ [669, 670, 671, 672, 674, 31, 675, 465, 466, 467, 468, 469, 470, 471, 676, 677, 678, 679, 473, 474, 475, 476, 477, 478] (by rfl)
set_option maxRecDepth 100000 in
theorem in_wsL_law0_r18 : ∀ w ∈ wsL_law0_r18, w ∈ lw_tbl := mem_pl _ [479, 680, 681, 682, 683, 481, 482, 483, 484, 485, 486, 487, 684, 685, 686, 687] (by rfl)
set_option maxRecDepth 100000 in
theorem in_X20 : ∀ w ∈ wsX20, w ∈ lw_tbl := by decide +kernel
set_option maxRecDepth 100000 in
theorem in_X30 : ∀ w ∈ wsX30, w ∈ lw_tbl := by decide +kernel
set_option maxRecDepth 100000 in
theorem in_X10 : ∀ w ∈ wsX10, w ∈ lw_tbl := by decide +kernel
set_option maxRecDepth 100000 in
theorem in_X00 : ∀ w ∈ wsX00, w ∈ lw_tbl := by decide +kernel
theorem wsL_law_in0 : ∀ w ∈ wsL_law0, w ∈ lw_tbl := fun w h => (List.mem_append.mp h).elim (fun h => (List.mem_append.mp h).elim (fun h => (List.mem_append.mp h).elim (fun h => (List.mem_append.mp h).elim (fun h => (List.mem_append.mp h).elim (fun h => (List.mem_append.mp h).elim (fun h => in_wsL_law0_r1 w h) (fun h => (List.mem_append.mp h).elim (fun h => in_wsL_law0_r2 w h) (fun h => (List.mem_append.mp h).elim (fun h => in_wsL_law0_r3 w h) (fun h => (List.mem_append.mp h).elim (fun h => in_wsL_law0_r4 w h) (fun h => (List.mem_append.mp h).elim (fun h => in_wsL_law0_r5 w h) (fun h => (List.mem_append.mp h).elim (fun h => in_wsL_law0_r6 w h) (fun h => (List.mem_append.mp h).elim (fun h => in_wsL_law0_r7 w h) (fun h => (List.mem_append.mp h).elim (fun h => in_wsL_law0_r8 w h) (fun h => (List.mem_append.mp h).elim (fun h => in_wsL_law0_r9 w h) (fun h => (List.mem_append.mp h).elim (fun h => in_wsL_law0_r10 w h) (fun h => (List.mem_append.mp h).elim (fun h => in_wsL_law0_r11 w h) (fun h => (List.mem_append.mp h).elim (fun h => in_wsL_law0_r12 w h) (fun h => (List.mem_append.mp h).elim (fun h => in_wsL_law0_r13 w h) (fun h => (List.mem_append.mp h).elim (fun h => in_wsL_law0_r14 w h) (fun h => (List.mem_append.mp h).elim (fun h => in_wsL_law0_r15 w h) (fun h => (List.mem_append.mp h).elim (fun h => in_wsL_law0_r16 w h) (fun h => (List.mem_append.mp h).elim (fun h => in_wsL_law0_r17 w h) (fun h => in_wsL_law0_r18 w h)))))))))))))))))) (fun h => in_X20 w h)) (fun h => in_X30 w h)) (fun h => in_X10 w h)) (fun h => in_X00 w h)) (fun h => absurd h List.not_mem_nil)
theorem wsL_law_x0 : ∀ w ∈ (vx_atS RX2 63 "java/lang/IndexOutOfBoundsException" ["java/lang/RuntimeException", "java/lang/Exception"]).filter goodWord, w ∈ lw_tbl := by decide +kernel
theorem wsL_law_x1 : ∀ w ∈ (vx_atS RX2 70 "java/lang/IllegalArgumentException" ["java/lang/RuntimeException", "java/lang/Exception"]).filter goodWord, w ∈ lw_tbl := by decide +kernel
theorem wsL_law_x2 : ∀ w ∈ (vx_atS RX2 88 "java/lang/IllegalStateException" ["java/lang/RuntimeException", "java/lang/Exception"]).filter goodWord, w ∈ lw_tbl := by decide +kernel
theorem wsL_law_in : ∀ w ∈ wsL_law, w ∈ lw_tbl := fun w h => (List.mem_append.mp h).elim (fun h => (List.mem_append.mp h).elim (fun h => (List.mem_append.mp h).elim (fun h => wsL_law_in0 w h) (fun h => wsL_law_x0 w h)) (fun h => wsL_law_x1 w h)) (fun h => wsL_law_x2 w h)
theorem inlX0 : ∀ w ∈ wsX00, w ∈ wsL_law := fun _ h => List.mem_append_left _ (List.mem_append_left _ (List.mem_append_left _ (List.mem_append_left _ (List.mem_append_right _ h))))
theorem inX0 : ∀ w ∈ wsX00, w ∈ lw_tbl := fun w h => wsL_law_in w (inlX0 w h)
theorem inlX1 : ∀ w ∈ wsX10, w ∈ wsL_law := fun _ h => List.mem_append_left _ (List.mem_append_left _ (List.mem_append_left _ (List.mem_append_left _ (List.mem_append_left _ (List.mem_append_right _ h)))))
theorem inX1 : ∀ w ∈ wsX10, w ∈ lw_tbl := fun w h => wsL_law_in w (inlX1 w h)
theorem inlX2 : ∀ w ∈ wsX20, w ∈ wsL_law := fun _ h => List.mem_append_left _ (List.mem_append_left _ (List.mem_append_left _ (List.mem_append_left _ (List.mem_append_left _ (List.mem_append_left _ (List.mem_append_left _ (List.mem_append_right _ h)))))))
theorem inX2 : ∀ w ∈ wsX20, w ∈ lw_tbl := fun w h => wsL_law_in w (inlX2 w h)
theorem inlX3 : ∀ w ∈ wsX30, w ∈ wsL_law := fun _ h => List.mem_append_left _ (List.mem_append_left _ (List.mem_append_left _ (List.mem_append_left _ (List.mem_append_left _ (List.mem_append_left _ (List.mem_append_right _ h))))))
theorem inX3 : ∀ w ∈ wsX30, w ∈ lw_tbl := fun w h => wsL_law_in w (inlX3 w h)
theorem inJx8e188 : ∀ w ∈ wsJx8e1880, w ∈ lw_tbl := by decide +kernel
theorem inJ0 : ∀ w ∈ wsJ00, w ∈ lw_tbl := by decide +kernel
end
section
theorem zz_end : True := trivial
end
