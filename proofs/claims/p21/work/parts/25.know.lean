/-! ===== what the machine knows at the law's entry (mine) ===== -/
set_option maxHeartbeats 4000000 in
set_option maxRecDepth 100000 in
theorem tw_of {s : State} {args : Array Value} (hts : ∀ w ∈ lw_tbl, w.before args s = true) (hgv : (Jvm.Cond.and given_1 narrow_1).before args s = true) : Tw s := by
  have hs := flat_of_before _ hgv
  refine ⟨fun w hw => ?_, fun q hq => ?_, fun q hq => ?_, fun q hq => absurd hq List.not_mem_nil, fun q hq => ?_⟩
  · have hh : ∀ w ∈ twH, w.onTables = true ∧ w ∈ lw_tbl := by decide +kernel
    exact va_Nw.of (hh w hw).1 (hts w (hh w hw).2)
  · have hh : ∀ q ∈ twC, Cond.castable q.1 q.2 ∈ lw_tbl := by decide +kernel
    exact va_Nw.of rfl (hts _ (hh q hq))
  · have hh : ∀ q ∈ twS, Cond.stringRef RX2 q.1 q.2 ∈ lw_tbl := by decide +kernel
    have hg : ∀ q ∈ twS, (Cond.exactly (.string RX2 q.1) "java/lang/String").before args s = true := by
      have hm : ∀ q ∈ twS, Cond.exactly (.string RX2 q.1) "java/lang/String" ∈ (flatC (Jvm.Cond.and given_1 narrow_1)) := by decide +kernel
      exact fun q hq => hs _ (hm q hq)
    obtain ⟨sa, -, -, -, e1, -⟩ := Cond.exactly_spec (hg q hq)
    exact ⟨sa, vk_R.of (hts _ (hh q hq)) e1⟩
  · have hh : ∀ q ∈ twD, Cond.declares q ∈ lw_tbl := by decide +kernel
    exact va_Nw.of rfl (hts _ (hh q hq))
set_option maxHeartbeats 4000000 in
set_option maxRecDepth 100000 in
theorem kb_of {s : State} {args : Array Value} (hts : ∀ w ∈ lw_tbl, w.before args s = true) (hgv : (Jvm.Cond.and given_1 narrow_1).before args s = true) : ∃ (G : va_G) (y : Nat → ClassId), Kb G y s := by
  obtain ⟨c0, i0, k0⟩ := u_known (C := RX0) (T := TX0) (N := 8) hts inX0 (hts (.instantiable RX0 8) (by decide +kernel))
  obtain ⟨c1, i1, k1⟩ := u_known (C := RX1) (T := TX1) (N := 2) hts inX1 (hts (.instantiable RX1 2) (by decide +kernel))
  obtain ⟨c2, i2, k2⟩ := u_known (C := RX2) (T := TX2) (N := 13) hts inX2 (hts (.instantiable RX2 13) (by decide +kernel))
  obtain ⟨a0, ka0, co0, f0, g0, h0⟩ := Cond.arrayClass_spec (hts (.arrayClass .int) (by decide +kernel))
  obtain ⟨co2, a2, ka2, e2, -, g2, h2, f2⟩ := Cond.arrayOver_spec (n := RX0) (hts (.arrayOver (.object RX0)) (by decide +kernel))
  obtain ⟨co3, a3, ka3, e3, g3, h3, f3⟩ := Cond.arrayOver_specA (t := .int) (hts (.arrayOver (.array .int)) (by decide +kernel))
  refine ⟨(fun c => match c with | 0 => c0 | 1 => c1 | _ => c2, fun c => match c with | 0 => i0 | 1 => i1 | _ => i2), fun j => match j with | 0 => a0 | 1 => a0 | 2 => a2 | _ => a3, ⟨fun c q hq => ?_, fun k q hk => ?_⟩, tw_of hts hgv⟩
  · match c, hq with
    | 0, hq => cases hq; exact k0
    | 1, hq => cases hq; exact k1
    | 2, hq => cases hq; exact k2
    | n + 3, hq => cases hq
  · match k, hk with
    | 0, hk => cases hk; exact ⟨fun n z => ⟨(fun k h => by cases h), ka0, g0, co0, h0⟩, f0⟩
    | 1, hk => cases hk; exact ⟨fun n z => ⟨(fun k h => by cases h), ka0, g0, co0, h0⟩, f0⟩
    | 2, hk => cases hk; exact ⟨fun n z => ⟨(fun k h => by cases h), ka2, g2, co2, h2⟩, ka2, co2, g2, h2, e2, f2⟩
    | 3, hk => cases hk; exact ⟨fun n z => ⟨(fun k h => by cases h), ka3, g3, co3, h3⟩, f3⟩
    | n + 4, hk => cases hk
theorem va_AOA.moved {s U : State} (hv : s.vm.Alike U.vm) (h : va_AOA .int s) : va_AOA .int U := by
  have h2 : (Cond.arrayOver (.array .int)).before #[] (s.setVm U.vm) = true := by rw [Cond.arrayOver_setVmC hv]; exact h
  exact h2
theorem oP_bl {G : va_G} {y : Nat → ClassId} {av : List Value} {ws : va_W} {sz : Nat} : FrameBlind (oP G y av ws sz) := fun _ U _ _ q => ⟨q.1, ⟨q.2.1.1, q.2.1.2.1, Kb.moved (State.WarmedH.refl U) q.2.1.2.2.1, q.2.1.2.2.2⟩, va_AO.moved (Vm.Alike.refl U.vm) q.2.2.1, va_AOA.moved (Vm.Alike.refl U.vm) q.2.2.2⟩
def w00 : MS := fun _ _ => 0
def w50 : MS := u2 w00 0 4 50
theorem pr0 (L : LNS) : PR b00 w50 0 L 0 (fun _ => 0) (fun _ => 0) (fun _ => 0) := by
  refine ⟨⟨by omega, by omega, rfl, rfl, rfl, rfl, fun k hk => ?_, rfl, rfl, rfl, ⟨by decide, by decide⟩, by show 0 ≤ (0 : Int32).toInt; decide, fun k hk => ?_, fun k hk => ⟨rfl, rfl⟩⟩, fun m h => absurd h (Nat.not_lt_zero _), fun i h => absurd h (Nat.not_lt_zero _)⟩
  · show (0 : Int32) = w50 0 (8 + k)
    unfold w50
    rw [u2_k (by omega)]; rfl
  · have e : w50 0 (5 + k) = 0 := by unfold w50; rw [u2_k (by omega)]; rfl
    rw [e]
    exact ⟨rfl, by decide, by decide⟩
