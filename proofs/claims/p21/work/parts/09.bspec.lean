/-! ===== the book's functions, in words of its rows (mine) ===== -/
abbrev LNS : Type := Nat → Nat → Nat → Int32
def lPt (w : MS) (p : Nat) : Nat → Int32 := fun k => if k < p then 0 else w 1 k
def lUnp (w : MS) (p : Nat) : Int32 := S32 (lPt w p) 6
def lFd (w : MS) (p : Nat) : Nat → Int64 := fun k => if k < p then 0 else (w 1 k).toInt64 * (w 2 k).toInt64
def lCust (w : MS) (p : Nat) : Int32 := d12 ((lUnp w p).toInt64 * (w 0 2).toInt64)
def lFund (w : MS) (p : Nat) : Int32 := d12 (S64 (lFd w p) 6)
def lOpt (w : MS) (p : Nat) : Int32 := d12 ((lUnp w p).toInt64 * (w 0 4).toInt64)
def lOwn (w : MS) (p : Nat) : Int32 := lCust w p - lFund w p - lOpt w p
def lAh (w : MS) (p x : Nat) : Int32 := if p + x < 6 then w 1 (p + x) else 0
def bCo (b : MS) (x : Int64) : Int32 := (x * (b 13 3).toInt64 / 100).toInt32
def bTA (b : MS) : Int32 := bCo b (S64 (fun j => (b 7 j).toInt64) 3) / 6
def bAl (b : MS) : Nat → Int64 := fun k => (b 14 k).toInt64
def bWt (b : MS) : Nat → Int64 := fun k => (b 14 k).toInt64 * (b 15 k).toInt64
def bAvg (b : MS) : Int32 := if lg_cmp (S64 (bAl b) 6) 0 ≤ 0 then 0 else (S64 (bWt b) 6 / S64 (bAl b) 6).toInt32
def bPd (b : MS) (x r : Int32) : Int32 := d12 ((bCo b x.toInt64).toInt64 * r.toInt64 + (x - bCo b x.toInt64).toInt64 * (b 0 0).toInt64)
def bEn (t : Nat) (x : Int32) : Int32 := if x < 0 then 0 else if nI t ≤ x then 0 else 1
def bFind (n : Nat) (la : Nat → Nat → Nat) (x : Int32) : Option Nat := if x < 0 then none else if x < 24 then lrF n la (cn x) else none
/-- a sum over the loans that there are -/
def bSm (n : Nat) (F : Nat → Int32) : Nat → Int32 := fun k => if k < n then F k else 0
/-- the margins of the loans whose field f is q -/
def bLm (L : LNS) (pd : Nat → Nat) (f : Nat) (q : Int32) : Nat → Int32 := fun k => if L k 0 f = q then lOwn (L k) (pd k) else 0
def bLM (n : Nat) (L : LNS) (pd : Nat → Nat) (f : Nat) (q : Int32) : Int32 := S32 (bSm n (bLm L pd f q)) 24
def bLay (b : MS) (k : Nat) (am rt : Int32) : MS := u2 (u2 b 14 k am) 15 k rt
def bLA (b : MS) (am rt : Int32) : Nat → MS
  | 0 => b
  | k + 1 => bLay (bLA b am rt k) k am rt
def bPP (L : LNS) (i p : Nat) : LNS := if p < 6 then u3 L i (nI (p + 1)) else L
def bPA (L : LNS) (n : Nat) (pd : Nat → Nat) : Nat → LNS
  | 0 => L
  | k + 1 => if k < n then bPP (bPA L n pd k) k (pd k) else bPA L n pd k
def bR1 (b : MS) (t n : Nat) (L : LNS) (pd : Nat → Nat) : Nat → MS
  | 0 => b
  | k + 1 => u2 (bR1 b t n L pd k) (16 + k) t (bLM n L pd 0 (nI k))
def bR2 (b : MS) (t n : Nat) (L : LNS) (pd : Nat → Nat) : Nat → MS
  | 0 => b
  | k + 1 => u2 (bR2 b t n L pd k) (19 + k) t (bLM n L pd 1 (nI k))
def bTr (L : LNS) (pd : Nat → Nat) : Nat → Int32 := fun k => lFund (L k) (pd k) + lOpt (L k) (pd k)
def bCu (L : LNS) (pd : Nat → Nat) : Nat → Int32 := fun k => lCust (L k) (pd k)
def bR3 (b : MS) (t n : Nat) (L : LNS) (pd : Nat → Nat) : MS := u2 (u2 (bR2 (bR1 b t n L pd 3) t n L pd 3) 11 t (S32 (bSm n (bTr L pd)) 24)) 12 t (S32 (bSm n (bCu L pd)) 24)
def bFT (b : MS) (k : Nat) : Int32 := bPd b (b 7 k) (bAvg b)
def bTC (b : MS) (k : Nat) : Int32 := d12 ((b 7 k).toInt64 * (b 13 1).toInt64)
def bD1 (b : MS) (t : Nat) : Nat → MS
  | 0 => b
  | k + 1 => u2 (u2 (u2 (bD1 b t k) (16 + k) t (bD1 b t k (16 + k) t + (bFT b k - bTC b k))) 11 t (bD1 b t k 11 t - bFT b k)) 12 t (bD1 b t k 12 t - bTC b k)
def bCl (b : MS) (t n : Nat) (L : LNS) (pd : Nat → Nat) : MS := u2 (bD1 (bR3 b t n L pd) t 3) 13 4 (nI (t + 1))
def bClose (b : MS) (t n : Nat) (L : LNS) (pd : Nat → Nat) : MS := bLay (bCl b t n L pd) ((t + 1) % 6) (bTA (bCl b t n L pd)) (bCl b t n L pd 0 5)
/-- codes: 0 where nothing is thrown, else the class by exN -/
def xSetCurve (x r : Int32) : Nat := if x < 1 then 1 else if 6 < x then 1 else if r < 0 then 2 else if 5000 < r then 2 else 0
def xSetRates (d o c : Int32) : Nat := if d < 0 then 2 else if 5000 < d then 2 else if o < 0 then 2 else if 5000 < o then 2 else if c < 0 then 2 else if 100 < c then 2 else 0
def bSetRates (b : MS) (d o c : Int32) : MS := u2 (u2 (u2 b 13 1 d) 13 2 o) 13 3 c
def xLend (n : Nat) (br pr am rt mo : Int32) : Nat := if br < 0 then 1 else if 3 ≤ br then 1 else if pr < 0 then 1 else if 3 ≤ pr then 1 else if am < 1 then 2 else if 10000000 < am then 2 else if rt < 0 then 2 else if 5000 < rt then 2 else if mo < 1 then 2 else if 6 < mo then 2 else if 24 ≤ nI n then 3 else 0
def xRepay (n : Nat) (L : LNS) (pd : Nat → Nat) (x : Int32) : Nat := if mIn x 0 (nI n - 1) = 0 then 1 else if L (cn x) 0 3 = 0 then 3 else if lUnp (L (cn x)) (pd (cn x)) = 0 then 3 else 0
def xDep (b : MS) (x ch : Int32) : Nat := if x < 0 then 1 else if 3 ≤ x then 1 else if ch < -10000000 then 2 else if 10000000 < ch then 2 else if b 7 (cn x) + ch < 0 then 3 else if 10000000 < b 7 (cn x) + ch then 3 else 0
def bDep (b : MS) (i : Nat) (ch : Int32) : MS := if b 13 4 = 0 ∧ ¬ ch = 0 then bLA (u2 b 7 i (b 7 i + ch)) (bTA (u2 b 7 i (b 7 i + ch))) (b 0 5) 6 else u2 b 7 i (b 7 i + ch)
def xBears (n : Nat) (x w : Int32) : Nat := if mIn x 0 (nI n - 1) = 0 then 1 else if mIn w 0 3 = 0 then 2 else 0
def bBear (w : MS) (p : Nat) (x : Int32) : Int32 := if x = 0 then lCust w p else if x = 1 then lFund w p else if x = 2 then lOpt w p else lOwn w p
def xDue (x : Int32) : Nat := if x < 0 then 2 else if 6 ≤ x then 2 else 0
def bDu (L : LNS) (pd : Nat → Nat) (x : Nat) : Nat → Int32 := fun k => lAh (L k) (pd k) x
def x3 (x : Int32) : Nat := if x < 0 then 1 else if 3 ≤ x then 1 else 0
def x6 (x : Int32) : Nat := if x < 0 then 1 else if 6 ≤ x then 1 else 0
def xMar (t : Nat) (x mo : Int32) : Nat := if x < 0 then 1 else if 3 ≤ x then 1 else if bEn t mo = 0 then 1 else 0
def xMo (t : Nat) (mo : Int32) : Nat := if bEn t mo = 0 then 1 else 0
theorem S32_z {f : Nat → Int32} : ∀ {n : Nat}, (∀ k, k < n → f k = 0) → S32 f n = 0
  | 0, _ => rfl
  | n + 1, h => by rw [S32, S32_z (fun k hk => h k (by omega)), h n (by omega)]; rfl
theorem S64_z {f : Nat → Int64} : ∀ {n : Nat}, (∀ k, k < n → f k = 0) → S64 f n = 0
  | 0, _ => rfl
  | n + 1, h => by rw [S64, S64_z (fun k hk => h k (by omega)), h n (by omega)]; rfl
theorem S32_k {f : Nat → Int32} {k : Nat} (h : f k = 0) : S32 f (k + 1) = S32 f k := by rw [S32, h, Int32.add_zero]
theorem lPt_z {w : MS} {p : Nat} : S32 (lPt w p) p = 0 := S32_z (fun k hk => if_pos hk)
theorem lFd_z {w : MS} {p : Nat} : S64 (lFd w p) p = 0 := S64_z (fun k hk => if_pos hk)
theorem lPt_s {w : MS} {p k : Nat} (h : p ≤ k) : S32 (lPt w p) k + w 1 k = S32 (lPt w p) (k + 1) := by
  rw [S32, lPt, if_neg (Nat.not_lt.mpr h)]
theorem lFd_s {w : MS} {p k : Nat} (h : p ≤ k) : S64 (lFd w p) k + (w 1 k).toInt64 * (w 2 k).toInt64 = S64 (lFd w p) (k + 1) := by
  rw [S64, lFd, if_neg (Nat.not_lt.mpr h)]
theorem bSm_s {n : Nat} {F : Nat → Int32} {k : Nat} (h : k < n) : S32 (bSm n F) k + F k = S32 (bSm n F) (k + 1) := by
  rw [S32, bSm, if_pos h]
theorem bSm_k {n : Nat} {F : Nat → Int32} {k : Nat} (h : n ≤ k) : S32 (bSm n F) (k + 1) = S32 (bSm n F) k := S32_k (if_neg (Nat.not_lt.mpr h))
theorem bSm_0 {n : Nat} {F : Nat → Int32} {k : Nat} (h : F k = 0) : S32 (bSm n F) (k + 1) = S32 (bSm n F) k := S32_k (by rw [bSm]; split <;> first | exact h | rfl)
section BK
variable {p : Program} {l : Launch} {e : Env} {R : Room} {s : State} {m : MethodId} {args : Array Value} {below : List Frame} {meth : Method} {c : Code} {H : Heap} {locs : List Loc} {cells slots : Nat} {Q : State → Prop}
variable {cc : ByteArray} {pc : Nat} {ls : Array Slot} {rest st0 : List Value} {G : va_G} {y : Nat → ClassId} {A : Nat → Prop} {H0 : Heap} {a : Nat → Nat} {b : MS} {n : Nat} {la : Nat → Nat → Nat} {L : LNS}
theorem lv_optS {r : Option Nat} {x : Nat} (h : r = some x) (k : W p l e R s m args below meth c H locs cells slots Q (F0 m pc ls (.ref x :: rest))) : W p l e R s m args below meth c H locs cells slots Q (F0 m pc ls (va_rf r :: rest)) := by
  subst h
  exact k
theorem lv_optN {r : Option Nat} (h : r = none) (k : W p l e R s m args below meth c H locs cells slots Q (F0 m pc ls (.null :: rest))) : W p l e R s m args below meth c H locs cells slots Q (F0 m pc ls (va_rf r :: rest)) := by
  subst h
  exact k
theorem bk_ln (hP : va_P G vwCl (bkW y a b n la L) H) {i : Nat} (hi : i < n) : va_P G vwCl (lnC y la L i) H := by
  intro k q hk
  have h3 : k < 3 := (List.getElem?_eq_some_iff.mp hk).1
  exact hP (17 + 3 * i + k) q (by rw [bkW_get hi k h3]; exact hk)
def rpW (y : Nat → ClassId) (a : Nat → Nat) (b : MS) : va_W := [(a 8, .inr (1, [.ref (a 14), .ref (a 15)])), (a 14, .inl (y 0, 6, .inl (b 14))), (a 15, .inl (y 0, 6, .inl (b 15)))]
theorem bk_rp (hP : va_P G vwCl (bkW y a b n la L) H) : va_P G vwCl (rpW y a b) H := hP.sub [4, 5, 6] rfl
theorem bg_M {k : Nat} (h : k < 3) : (bkW y a b n la L)[8 + k]? = some (a (16 + k), .inl (y 0, 47, .inl (b (16 + k)))) := by
  rcases (show k = 0 ∨ k = 1 ∨ k = 2 by omega) with rfl | rfl | rfl <;> rfl
theorem bs_M {k t : Nat} {z : Int32} (h : k < 3) : (bkW y a b n la L).set (8 + k) (a (16 + k), .inl (y 0, 47, .inl (upd (b (16 + k)) t z))) = bkW y a (u2 b (16 + k) t z) n la L := by
  rcases (show k = 0 ∨ k = 1 ∨ k = 2 by omega) with rfl | rfl | rfl <;> rfl
theorem bg_P {k : Nat} (h : k < 3) : (bkW y a b n la L)[12 + k]? = some (a (19 + k), .inl (y 0, 47, .inl (b (19 + k)))) := by
  rcases (show k = 0 ∨ k = 1 ∨ k = 2 by omega) with rfl | rfl | rfl <;> rfl
theorem bs_P {k t : Nat} {z : Int32} (h : k < 3) : (bkW y a b n la L).set (12 + k) (a (19 + k), .inl (y 0, 47, .inl (upd (b (19 + k)) t z))) = bkW y a (u2 b (19 + k) t z) n la L := by
  rcases (show k = 0 ∨ k = 1 ∨ k = 2 by omega) with rfl | rfl | rfl <;> rfl
theorem bg_0 : (bkW y a b n la L)[1]? = some (a 0, .inl (y 0, 6, .inl (b 0))) := rfl
theorem bs_0 {k : Nat} {z : Int32} : (bkW y a b n la L).set 1 (a 0, .inl (y 0, 6, .inl (upd (b 0) k z))) = bkW y a (u2 b 0 k z) n la L := rfl
theorem bg_7 : (bkW y a b n la L)[3]? = some (a 7, .inl (y 0, 3, .inl (b 7))) := rfl
theorem bs_7 {k : Nat} {z : Int32} : (bkW y a b n la L).set 3 (a 7, .inl (y 0, 3, .inl (upd (b 7) k z))) = bkW y a (u2 b 7 k z) n la L := rfl
theorem bg_14 : (bkW y a b n la L)[5]? = some (a 14, .inl (y 0, 6, .inl (b 14))) := rfl
theorem bs_14 {k : Nat} {z : Int32} : (bkW y a b n la L).set 5 (a 14, .inl (y 0, 6, .inl (upd (b 14) k z))) = bkW y a (u2 b 14 k z) n la L := rfl
theorem bg_15 : (bkW y a b n la L)[6]? = some (a 15, .inl (y 0, 6, .inl (b 15))) := rfl
theorem bs_15 {k : Nat} {z : Int32} : (bkW y a b n la L).set 6 (a 15, .inl (y 0, 6, .inl (upd (b 15) k z))) = bkW y a (u2 b 15 k z) n la L := rfl
theorem bg_11 : (bkW y a b n la L)[15]? = some (a 11, .inl (y 0, 47, .inl (b 11))) := rfl
theorem bs_11 {k : Nat} {z : Int32} : (bkW y a b n la L).set 15 (a 11, .inl (y 0, 47, .inl (upd (b 11) k z))) = bkW y a (u2 b 11 k z) n la L := rfl
theorem bg_12 : (bkW y a b n la L)[16]? = some (a 12, .inl (y 0, 47, .inl (b 12))) := rfl
theorem bs_12 {k : Nat} {z : Int32} : (bkW y a b n la L).set 16 (a 12, .inl (y 0, 47, .inl (upd (b 12) k z))) = bkW y a (u2 b 12 k z) n la L := rfl
theorem bg_5 : (bkW y a b n la L)[2]? = some (a 5, .inl (y 2, 24, .inr (.inr (.inr (.inr (lrF n la)))))) := rfl
theorem bg_9 : (bkW y a b n la L)[7]? = some (a 9, .inl (y 3, 3, .inr (.inr (.inr (.inr (fun i => if i < 3 then some (a (16 + i)) else none)))))) := rfl
theorem bg_10 : (bkW y a b n la L)[11]? = some (a 10, .inl (y 3, 3, .inr (.inr (.inr (.inr (fun i => if i < 3 then some (a (19 + i)) else none)))))) := rfl
/-- a loan's paid parts, written -/
theorem lnS {Ts : List Cond} {index i : Nat} {x : Int32} (hexec : p.tables.exec = Jvm.exec) (hb : c.code = cc) (hts : ∀ w ∈ Ts, w.before args s = true) (hin : ∀ w ∈ u_ws RX0 TX0 8, w ∈ Ts) (hown : s.vm.findClass RX0 = some m.cls) (hK : Kb G y s) (hP : va_P G vwCl (bkW y a b n la L) H) (hD : va_D A (bkW y a b n la L)) (hS : va_S A H0 H locs) (hi : i < n) (hlink : (Cond.fieldLink RX0 index (TX0 7).1 (TX0 7).2.1 (TX0 7).2.2.1).before args s = true) (hdg : decode cc pc = .ok (.putfield index, 3))
    (kk : ∀ (H1 : Heap) (locs1 : List Loc), va_P G vwCl (bkW y a b n la (u3 L i x)) H1 → va_D A (bkW y a b n la (u3 L i x)) → va_S A H0 H1 locs1 → W p l e R s m args below meth c H1 locs1 cells slots Q (F0 m (pc + 3) ls rest)) : W p l e R s m args below meth c H locs cells slots Q (F0 m pc ls (.int x :: .ref (la i 0) :: rest)) := by
  have hg : (bkW y a b n la L)[17 + 3 * i]? = some (la i 0, .inr (0, lnF la L i)) := (bkW_get hi 0 (by decide)).trans rfl
  refine va_put (ci := 0) (C := RX0) (T := TX0) (N := 8) (v := .int x) (ty := .int) hexec hb hts hin tyX0 tyX0_ok nmX0 hown hK.1 hP hD hS (17 + 3 * i) hg rfl 7 (by decide) hlink (fun _ h9 => h9) rfl (by decide +kernel) rfl rfl (by show 7 < 8; decide) hdg (fun H1 locs1 h1 h2 h3 => ?_)
  rw [bkW_set hi] at h1 h2
  exact kk H1 locs1 h1 h2 h3
theorem lnG {Ts : List Cond} {index i : Nat} {val : Value} (hexec : p.tables.exec = Jvm.exec) (hb : c.code = cc) (hts : ∀ w ∈ Ts, w.before args s = true) (hin : ∀ w ∈ u_ws RX0 TX0 8, w ∈ Ts) (hown : s.vm.findClass RX0 = some m.cls) (hK : Kb G y s) (hP : va_P G vwCl (lnC y la L i) H) (k : Nat) (hk : k < 8) (hlink : (Cond.fieldLink RX0 index (TX0 k).1 (TX0 k).2.1 (TX0 k).2.2.1).before args s = true) (hv : (lnF la L i)[k]? = some val) (hdg : decode cc pc = .ok (.getfield index, 3))
    (kk : W p l e R s m args below meth c H locs cells slots Q (F0 m (pc + 3) ls (val :: rest))) : W p l e R s m args below meth c H locs cells slots Q (F0 m pc ls (.ref (la i 0) :: rest)) :=
  va_get (ci := 0) (C := RX0) (T := TX0) (N := 8) hexec hb hts hin hown hK.1 hP 0 rfl rfl k hk hlink (fun _ h9 => h9) hv hdg kk
/-- out of the book, a nest mate's -/
theorem lnGN {Ts : List Cond} {index i : Nat} {val : Value} (hexec : p.tables.exec = Jvm.exec) (hb : c.code = cc) (hts : ∀ w ∈ Ts, w.before args s = true) (hin : ∀ w ∈ u_ws RX0 TX0 8, w ∈ Ts) (hown : s.vm.findClass RX2 = some m.cls) (hK : Kb G y s) (hP : va_P G vwCl (lnC y la L i) H) (k : Nat) (hk : k < 8) (hlink : (Cond.fieldLinkNest RX2 index (TX0 k).1 (TX0 k).2.1 (TX0 k).2.2.1 "FundBook") ∈ twH) (hv : (lnF la L i)[k]? = some val) (hdg : decode cc pc = .ok (.getfield index, 3))
    (kk : W p l e R s m args below meth c H locs cells slots Q (F0 m (pc + 3) ls (val :: rest))) : W p l e R s m args below meth c H locs cells slots Q (F0 m pc ls (.ref (la i 0) :: rest)) :=
  va_getN (ci := 0) (C := RX0) (T := TX0) (N := 8) hexec hb hts hin hown hK.1 hP 0 rfl rfl k hk (va_Nw.use (by rfl) (hK.nw hlink)) (fun _ h9 => h9) hv hdg kk
theorem rpG {Ts : List Cond} {index : Nat} {val : Value} (hexec : p.tables.exec = Jvm.exec) (hb : c.code = cc) (hts : ∀ w ∈ Ts, w.before args s = true) (hin : ∀ w ∈ u_ws RX1 TX1 2, w ∈ Ts) (hown : s.vm.findClass RX1 = some m.cls) (hK : Kb G y s) (hP : va_P G vwCl (rpW y a b) H) (k : Nat) (hk : k < 2) (hlink : (Cond.fieldLink RX1 index (TX1 k).1 (TX1 k).2.1 (TX1 k).2.2.1).before args s = true) (hv : ([.ref (a 14), .ref (a 15)] : List Value)[k]? = some val) (hdg : decode cc pc = .ok (.getfield index, 3))
    (kk : W p l e R s m args below meth c H locs cells slots Q (F0 m (pc + 3) ls (val :: rest))) : W p l e R s m args below meth c H locs cells slots Q (F0 m pc ls (.ref (a 8) :: rest)) :=
  va_get (ci := 1) (C := RX1) (T := TX1) (N := 2) hexec hb hts hin hown hK.1 hP 0 rfl rfl k hk hlink (fun _ h9 => h9) hv hdg kk
theorem rpGN {Ts : List Cond} {index : Nat} {val : Value} (hexec : p.tables.exec = Jvm.exec) (hb : c.code = cc) (hts : ∀ w ∈ Ts, w.before args s = true) (hin : ∀ w ∈ u_ws RX1 TX1 2, w ∈ Ts) (hown : s.vm.findClass RX2 = some m.cls) (hK : Kb G y s) (hP : va_P G vwCl (rpW y a b) H) (k : Nat) (hk : k < 2) (hlink : (Cond.fieldLinkNest RX2 index (TX1 k).1 (TX1 k).2.1 (TX1 k).2.2.1 "FundBook") ∈ twH) (hv : ([.ref (a 14), .ref (a 15)] : List Value)[k]? = some val) (hdg : decode cc pc = .ok (.getfield index, 3))
    (kk : W p l e R s m args below meth c H locs cells slots Q (F0 m (pc + 3) ls (val :: rest))) : W p l e R s m args below meth c H locs cells slots Q (F0 m pc ls (.ref (a 8) :: rest)) :=
  va_getN (ci := 1) (C := RX1) (T := TX1) (N := 2) hexec hb hts hin hown hK.1 hP 0 rfl rfl k hk (va_Nw.use (by rfl) (hK.nw hlink)) (fun _ h9 => h9) hv hdg kk
end BK
theorem bR1_o {b : MS} {t n : Nat} {L : LNS} {pd : Nat → Nat} {j : Nat} : ∀ k, k ≤ 3 → (j < 16 ∨ 19 ≤ j) → bR1 b t n L pd k j = b j
  | 0, _, _ => rfl
  | k + 1, h, hj => by rw [bR1, u2_j (by omega), bR1_o k (by omega) hj]
theorem bR2_o {b : MS} {t n : Nat} {L : LNS} {pd : Nat → Nat} {j : Nat} : ∀ k, k ≤ 3 → (j < 19 ∨ 22 ≤ j) → bR2 b t n L pd k j = b j
  | 0, _, _ => rfl
  | k + 1, h, hj => by rw [bR2, u2_j (by omega), bR2_o k (by omega) hj]
theorem bD1_o {b : MS} {t : Nat} {j : Nat} : ∀ k, k ≤ 3 → (j < 11 ∨ 13 ≤ j) → (j < 16 ∨ 19 ≤ j) → bD1 b t k j = b j
  | 0, _, _, _ => rfl
  | k + 1, h, h1, h2 => by rw [bD1, u2_j (by omega), u2_j (by omega), u2_j (by omega), bD1_o k (by omega) h1 h2]
theorem bLA_o {b : MS} {am rt : Int32} {j : Nat} (h1 : j ≠ 14) (h2 : j ≠ 15) : ∀ k, bLA b am rt k j = b j
  | 0 => rfl
  | k + 1 => by rw [bLA, bLay, u2_j h2, u2_j h1, bLA_o h1 h2 k]
