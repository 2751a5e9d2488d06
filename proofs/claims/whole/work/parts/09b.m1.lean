set_option maxHeartbeats 1000000 in
set_option maxRecDepth 100000 in
theorem c_X5_thrown {l : Launch} {B kr kp : Nat} {D : va_G} {cI cJ cZ : ClassId} {h : Nat → Nat} {R : va_W} {th : Int32} {n : Nat} {L : Nat → Int64} {kt : Nat → Int32} {km : Nat → Int32} {kl : Nat → Int32} {pt : Nat → Int32} {pm : Nat → Int32} {pl : Nat → Int32} {nu : Nat → Int32} {le : Nat → Int32} {af : Nat → Int32} {run : Bool} {wc : Nat} {lc : Nat} {tr : Nat} {cl : Nat} {tm : Nat} {ms : Nat} {co : Nat} {yn : Nat} {yh : Nat → Int32} {pa : Int32} {mc : Nat → Int32}     : Met l yX5_thrown wsX5_thrown ({ frames := 0, cells := 0, slots := 0, locals := 0 }) (zPc B kr kp D (zTy cI cJ cZ) (zWM cI cJ cZ h th (n, L) ((zcb kt pt), (zcb km pm), (zcb kl pl)) mc (run, wc, nu, lc, le, af, tr, ms, cl, tm) (co, yn, yh, pa) ++ R) [.ref (h 0)]) (zQi B D (zWM cI cJ cZ h th (n, L) ((zcb kt pt), (zcb km pm), (zcb kl pl)) mc (run, wc, nu, lc, le, af, tr, ms, cl, tm) (co, yn, yh, pa) ++ R) th) 0 0 (zAb B) := by
  refine Met.ofW (cc := cX5_thrown) (maxL := 1) (ret := (some .int)) (by decide) rfl ?_
  intro p e s m args below meth c s₁ B0 hml hv
  obtain ⟨rfl, hP, hD, hK, hE, hB⟩ := hv
  have hx := B0.exec
  have hb := B0.bytes
  have hr := B0.returns
  have hts := atoms_spec (ws := wsX5_thrown) B0.pre
  have hown : s.vm.findClass RX5 = some m.cls := findClass_of_methodNamed B0.named
  have hlocks := B0.notSynchronized
  have hA : ∀ q : Nat, s.heap.size ≤ q → zAb B q := fun q hq => Nat.le_trans hB hq
  have hS : va_S (zAb B) s.heap s.heap [] := va_S.rf
  have hl := lv_entry ([.ref (h 0)]) (n := 1) (Nat.le_of_ble_eq_true rfl)
  rw [lg_entry_eq]
  generalize (lg_sl ([.ref (h 0)]) ++ List.replicate (1 - (lg_sl ([.ref (h 0)])).length) Slot.unset).toArray = ls at hl ⊢
  have hl : lv_has ls 1 [(0, .ref (h 0))] := hl
  have hinX5 : ∀ w ∈ wsX50, w ∈ wsX5_thrown := fun _ h => List.mem_cons_of_mem _ (List.mem_append_right _ h)
  have hP : va_P D vwCl (zWM cI cJ cZ h th (n, L) ((zcb kt pt), (zcb km pm), (zcb kl pl)) mc (run, wc, nu, lc, le, af, tr, ms, cl, tm) (co, yn, yh, pa) ++ R) s.heap := hP
  have hD : va_D (zAb B) (zWM cI cJ cZ h th (n, L) ((zcb kt pt), (zcb km pm), (zcb kl pl)) mc (run, wc, nu, lc, le, af, tr, ms, cl, tm) (co, yn, yh, pa) ++ R) := hD
  refine lv_aload_n hx hb dX5_thrown_0 rfl (lv_at hl 0 rfl) ?_
  refine va_get (ci := 5) (v := .int th) (C := RX5) (T := TX5) (N := 20) hx hb hts hinX5 hown hK hP 0 rfl rfl 0 (by decide) (hts (.fieldLink RX5 43 "TypingTutorModel" "thrown" "I") (List.mem_of_getElem? (i := 1) rfl)) (fun _ h9 => h9) rfl dX5_thrown_1 ?_
  exact W.iret (v := th) hx hb hr (fun t ht hW => ⟨⟨_, (), rfl, rfl, by rw [ht]; exact hP, hD⟩, hS.F ht⟩) hS.2.2 dX5_thrown_4

set_option maxHeartbeats 1000000 in
set_option maxRecDepth 100000 in
theorem c_X5_fail {l : Launch} {B kr kp : Nat} {D : va_G} {cI cJ cZ : ClassId} {h : Nat → Nat} {R : va_W} {th : Int32} {n : Nat} {L : Nat → Int64} {kt : Nat → Int32} {km : Nat → Int32} {kl : Nat → Int32} {pt : Nat → Int32} {pm : Nat → Int32} {pl : Nat → Int32} {nu : Nat → Int32} {le : Nat → Int32} {af : Nat → Int32} {run : Bool} {wc : Nat} {lc : Nat} {tr : Nat} {cl : Nat} {tm : Nat} {ms : Nat} {co : Nat} {yn : Nat} {yh : Nat → Int32} {pa : Int32} {mc : Nat → Int32} {x : Int32}    : Met l yX5_fail wsX5_fail ({ frames := 0, cells := 0, slots := 0, locals := 0 }) (zPc B kr kp D (zTy cI cJ cZ) (zWM cI cJ cZ h th (n, L) ((zcb kt pt), (zcb km pm), (zcb kl pl)) mc (run, wc, nu, lc, le, af, tr, ms, cl, tm) (co, yn, yh, pa) ++ R) [.ref (h 0), .int x]) (zQi B D (zWM cI cJ cZ h x (n, L) ((zcb kt pt), (zcb km pm), (zcb kl pl)) mc (run, wc, nu, lc, le, af, tr, ms, cl, tm) (co, yn, yh, pa) ++ R) 0) 0 0 (zAb B) := by
  refine Met.ofW (cc := cX5_fail) (maxL := 2) (ret := (some .int)) (by decide) rfl ?_
  intro p e s m args below meth c s₁ B0 hml hv
  obtain ⟨rfl, hP, hD, hK, hE, hB⟩ := hv
  have hx := B0.exec
  have hb := B0.bytes
  have hr := B0.returns
  have hts := atoms_spec (ws := wsX5_fail) B0.pre
  have hown : s.vm.findClass RX5 = some m.cls := findClass_of_methodNamed B0.named
  have hlocks := B0.notSynchronized
  have hA : ∀ q : Nat, s.heap.size ≤ q → zAb B q := fun q hq => Nat.le_trans hB hq
  have hS : va_S (zAb B) s.heap s.heap [] := va_S.rf
  have hl := lv_entry ([.ref (h 0), .int x]) (n := 2) (Nat.le_of_ble_eq_true rfl)
  rw [lg_entry_eq]
  generalize (lg_sl ([.ref (h 0), .int x]) ++ List.replicate (2 - (lg_sl ([.ref (h 0), .int x])).length) Slot.unset).toArray = ls at hl ⊢
  have hl : lv_has ls 2 [(0, .ref (h 0)), (1, .int x)] := hl
  have hinX5 : ∀ w ∈ wsX50, w ∈ wsX5_fail := fun _ h => List.mem_cons_of_mem _ (List.mem_append_right _ h)
  have hP : va_P D vwCl (zWM cI cJ cZ h th (n, L) ((zcb kt pt), (zcb km pm), (zcb kl pl)) mc (run, wc, nu, lc, le, af, tr, ms, cl, tm) (co, yn, yh, pa) ++ R) s.heap := hP
  have hD : va_D (zAb B) (zWM cI cJ cZ h th (n, L) ((zcb kt pt), (zcb km pm), (zcb kl pl)) mc (run, wc, nu, lc, le, af, tr, ms, cl, tm) (co, yn, yh, pa) ++ R) := hD
  refine lv_aload_n hx hb dX5_fail_0 rfl (lv_at hl 0 rfl) ?_
  refine lv_iload_n hx hb dX5_fail_1 rfl (lv_at hl 1 rfl) ?_
  refine va_put (ci := 5) (v := .int x) (ty := .int) (C := RX5) (T := TX5) (N := 20) hx hb hts hinX5 tyX5 tyX5_ok nmX5 hown hK hP hD hS 0 rfl rfl 0 (by decide) (hts (.fieldLink RX5 43 "TypingTutorModel" "thrown" "I") (List.mem_of_getElem? (i := 1) rfl)) (fun _ h9 => h9) rfl (by decide +kernel) rfl rfl (Nat.le_of_ble_eq_true rfl) dX5_fail_2 (fun H locs hP hD hS => ?_)
  have hP : va_P D vwCl (zWM cI cJ cZ h x (n, L) ((zcb kt pt), (zcb km pm), (zcb kl pl)) mc (run, wc, nu, lc, le, af, tr, ms, cl, tm) (co, yn, yh, pa) ++ R) _ := hP
  have hD : va_D (zAb B) (zWM cI cJ cZ h x (n, L) ((zcb kt pt), (zcb km pm), (zcb kl pl)) mc (run, wc, nu, lc, le, af, tr, ms, cl, tm) (co, yn, yh, pa) ++ R) := hD
  refine lv_iconst (v := 0) hx hb dX5_fail_5 (by decide) ?_
  exact W.iret (v := 0) hx hb hr (fun t ht hW => ⟨⟨_, (), rfl, rfl, by rw [ht]; exact hP, hD⟩, hS.F ht⟩) hS.2.2 dX5_fail_6

set_option maxHeartbeats 1000000 in
set_option maxRecDepth 100000 in
theorem c_X5_isKey {l : Launch} {B kr kp : Nat} {D : va_G} {cI cJ cZ : ClassId} {ws : va_W} {k : Int32}    : Met l yX5_isKey wsX5_isKey ({ frames := 0, cells := 0, slots := 0, locals := 0 }) (zPc B kr kp D (zTy cI cJ cZ) ws [.int k]) (zQi B D ws (zq (¬ k < 0 ∧ ¬ 26 ≤ k))) 0 0 (zAb B) := by
  refine Met.ofW (cc := cX5_isKey) (maxL := 1) (ret := (some .boolean)) (by decide) rfl ?_
  intro p e s m args below meth c s₁ B0 hml hv
  obtain ⟨rfl, hP, hD, hK, hE, hB⟩ := hv
  have hx := B0.exec
  have hb := B0.bytes
  have hr := B0.returns
  have hts := atoms_spec (ws := wsX5_isKey) B0.pre
  have hown : s.vm.findClass RX5 = some m.cls := findClass_of_methodNamed B0.named
  have hlocks := B0.notSynchronized
  have hA : ∀ q : Nat, s.heap.size ≤ q → zAb B q := fun q hq => Nat.le_trans hB hq
  have hS : va_S (zAb B) s.heap s.heap [] := va_S.rf
  have hl := lv_entry ([.int k]) (n := 1) (Nat.le_of_ble_eq_true rfl)
  rw [lg_entry_eq]
  generalize (lg_sl ([.int k]) ++ List.replicate (1 - (lg_sl ([.int k])).length) Slot.unset).toArray = ls at hl ⊢
  have hl : lv_has ls 1 [(0, .int k)] := hl
  have hP : va_P D vwCl ws s.heap := hP
  have hD : va_D (zAb B) ws := hD
  refine lv_iload_n hx hb dX5_isKey_0 rfl (lv_at hl 0 rfl) ?_
  refine lv_if_lt (tgt := 14) hx hb dX5_isKey_1 (by decide) (fun c_1 => ?_) (fun c_1 => ?_)
  · skip
    refine lv_iconst (v := 0) hx hb dX5_isKey_14 (by decide) ?_
    exact W.zret (v := 0) hx hb hr rfl (fun t ht hW => ⟨⟨_, (), rfl, (zq_f (fun hh => by first | exact hh.1 c_1 | exact hh.2 c_2)).symm, by rw [ht]; exact hP, hD⟩, hS.F ht⟩) hS.2.2 dX5_isKey_15
  · skip
    refine lv_iload_n hx hb dX5_isKey_4 rfl (lv_at hl 0 rfl) ?_
    refine lv_bipush (v := 26) hx hb dX5_isKey_5 (by decide) ?_
    refine lv_icmp_ge (tgt := 14) hx hb dX5_isKey_7 (by decide) (fun c_2 => ?_) (fun c_2 => ?_)
    · skip
      refine lv_iconst (v := 0) hx hb dX5_isKey_14 (by decide) ?_
      exact W.zret (v := 0) hx hb hr rfl (fun t ht hW => ⟨⟨_, (), rfl, (zq_f (fun hh => by first | exact hh.1 c_1 | exact hh.2 c_2)).symm, by rw [ht]; exact hP, hD⟩, hS.F ht⟩) hS.2.2 dX5_isKey_15
    · skip
      refine lv_iconst (v := 1) hx hb dX5_isKey_10 (by decide) ?_
      refine lv_goto (tgt := 15) hx hb dX5_isKey_11 (by decide) ?_
      exact W.zret (v := 1) hx hb hr rfl (fun t ht hW => ⟨⟨_, (), rfl, (zq_t ⟨c_1, c_2⟩).symm, by rw [ht]; exact hP, hD⟩, hS.F ht⟩) hS.2.2 dX5_isKey_15

set_option maxHeartbeats 1000000 in
set_option maxRecDepth 100000 in
theorem c_X5_isNumber {l : Launch} {B kr kp : Nat} {D : va_G} {cI cJ cZ : ClassId} {h : Nat → Nat} {R : va_W} {th : Int32} {n : Nat} {L : Nat → Int64} {kt : Nat → Int32} {km : Nat → Int32} {kl : Nat → Int32} {pt : Nat → Int32} {pm : Nat → Int32} {pl : Nat → Int32} {nu : Nat → Int32} {le : Nat → Int32} {af : Nat → Int32} {run : Bool} {wc : Nat} {lc : Nat} {tr : Nat} {cl : Nat} {tm : Nat} {ms : Nat} {co : Nat} {yn : Nat} {yh : Nat → Int32} {pa : Int32} {mc : Nat → Int32} {i : Int32}    : Met l yX5_isNumber wsX5_isNumber ({ frames := 0, cells := 0, slots := 0, locals := 0 }) (zPc B kr kp D (zTy cI cJ cZ) (zWM cI cJ cZ h th (n, L) ((zcb kt pt), (zcb km pm), (zcb kl pl)) mc (run, wc, nu, lc, le, af, tr, ms, cl, tm) (co, yn, yh, pa) ++ R) [.ref (h 0), .int i]) (zQi B D (zWM cI cJ cZ h th (n, L) ((zcb kt pt), (zcb km pm), (zcb kl pl)) mc (run, wc, nu, lc, le, af, tr, ms, cl, tm) (co, yn, yh, pa) ++ R) (zq (¬ i < 0 ∧ ¬ nI n ≤ i))) 0 0 (zAb B) := by
  refine Met.ofW (cc := cX5_isNumber) (maxL := 2) (ret := (some .boolean)) (by decide) rfl ?_
  intro p e s m args below meth c s₁ B0 hml hv
  obtain ⟨rfl, hP, hD, hK, hE, hB⟩ := hv
  have hx := B0.exec
  have hb := B0.bytes
  have hr := B0.returns
  have hts := atoms_spec (ws := wsX5_isNumber) B0.pre
  have hown : s.vm.findClass RX5 = some m.cls := findClass_of_methodNamed B0.named
  have hlocks := B0.notSynchronized
  have hA : ∀ q : Nat, s.heap.size ≤ q → zAb B q := fun q hq => Nat.le_trans hB hq
  have hS : va_S (zAb B) s.heap s.heap [] := va_S.rf
  have hl := lv_entry ([.ref (h 0), .int i]) (n := 2) (Nat.le_of_ble_eq_true rfl)
  rw [lg_entry_eq]
  generalize (lg_sl ([.ref (h 0), .int i]) ++ List.replicate (2 - (lg_sl ([.ref (h 0), .int i])).length) Slot.unset).toArray = ls at hl ⊢
  have hl : lv_has ls 2 [(0, .ref (h 0)), (1, .int i)] := hl
  have hinX5 : ∀ w ∈ wsX50, w ∈ wsX5_isNumber := fun _ h => List.mem_cons_of_mem _ (List.mem_append_right _ h)
  have hP : va_P D vwCl (zWM cI cJ cZ h th (n, L) ((zcb kt pt), (zcb km pm), (zcb kl pl)) mc (run, wc, nu, lc, le, af, tr, ms, cl, tm) (co, yn, yh, pa) ++ R) s.heap := hP
  have hD : va_D (zAb B) (zWM cI cJ cZ h th (n, L) ((zcb kt pt), (zcb km pm), (zcb kl pl)) mc (run, wc, nu, lc, le, af, tr, ms, cl, tm) (co, yn, yh, pa) ++ R) := hD
  refine lv_iload_n hx hb dX5_isNumber_0 rfl (lv_at hl 1 rfl) ?_
  refine lv_if_lt (tgt := 16) hx hb dX5_isNumber_1 (by decide) (fun c_1 => ?_) (fun c_1 => ?_)
  · skip
    refine lv_iconst (v := 0) hx hb dX5_isNumber_16 (by decide) ?_
    exact W.zret (v := 0) hx hb hr rfl (fun t ht hW => ⟨⟨_, (), rfl, (zq_f (fun hh => by first | exact hh.1 c_1 | exact hh.2 c_2)).symm, by rw [ht]; exact hP, hD⟩, hS.F ht⟩) hS.2.2 dX5_isNumber_17
  · skip
    refine lv_iload_n hx hb dX5_isNumber_4 rfl (lv_at hl 1 rfl) ?_
    refine lv_aload_n hx hb dX5_isNumber_5 rfl (lv_at hl 0 rfl) ?_
    refine va_get (ci := 5) (v := .int (nI n)) (C := RX5) (T := TX5) (N := 20) hx hb hts hinX5 hown hK hP 0 rfl rfl 1 (by decide) (hts (.fieldLink RX5 46 "TypingTutorModel" "words" "I") (List.mem_of_getElem? (i := 1) rfl)) (fun _ h9 => h9) rfl dX5_isNumber_6 ?_
    refine lv_icmp_ge (tgt := 16) hx hb dX5_isNumber_9 (by decide) (fun c_2 => ?_) (fun c_2 => ?_)
    · skip
      refine lv_iconst (v := 0) hx hb dX5_isNumber_16 (by decide) ?_
      exact W.zret (v := 0) hx hb hr rfl (fun t ht hW => ⟨⟨_, (), rfl, (zq_f (fun hh => by first | exact hh.1 c_1 | exact hh.2 c_2)).symm, by rw [ht]; exact hP, hD⟩, hS.F ht⟩) hS.2.2 dX5_isNumber_17
    · skip
      refine lv_iconst (v := 1) hx hb dX5_isNumber_12 (by decide) ?_
      refine lv_goto (tgt := 17) hx hb dX5_isNumber_13 (by decide) ?_
      exact W.zret (v := 1) hx hb hr rfl (fun t ht hW => ⟨⟨_, (), rfl, (zq_t ⟨c_1, c_2⟩).symm, by rw [ht]; exact hP, hD⟩, hS.F ht⟩) hS.2.2 dX5_isNumber_17

set_option maxHeartbeats 1000000 in
set_option maxRecDepth 100000 in
theorem c_X5_pairOf {l : Launch} {B kr kp : Nat} {D : va_G} {cI cJ cZ : ClassId} {ws : va_W} {a : Nat} {b : Nat}    : Met l yX5_pairOf wsX5_pairOf ({ frames := 0, cells := 0, slots := 0, locals := 0 }) (zPc B kr kp D (zTy cI cJ cZ) ws [.int (nI a), .int (nI b)]) (zQi B D ws (nI (26 + (26 * a + b)))) 0 0 (zAb B) := by
  refine Met.ofW (cc := cX5_pairOf) (maxL := 2) (ret := (some .int)) (by decide) rfl ?_
  intro p e s m args below meth c s₁ B0 hml hv
  obtain ⟨rfl, hP, hD, hK, hE, hB⟩ := hv
  have hx := B0.exec
  have hb := B0.bytes
  have hr := B0.returns
  have hts := atoms_spec (ws := wsX5_pairOf) B0.pre
  have hown : s.vm.findClass RX5 = some m.cls := findClass_of_methodNamed B0.named
  have hlocks := B0.notSynchronized
  have hA : ∀ q : Nat, s.heap.size ≤ q → zAb B q := fun q hq => Nat.le_trans hB hq
  have hS : va_S (zAb B) s.heap s.heap [] := va_S.rf
  have hl := lv_entry ([.int (nI a), .int (nI b)]) (n := 2) (Nat.le_of_ble_eq_true rfl)
  rw [lg_entry_eq]
  generalize (lg_sl ([.int (nI a), .int (nI b)]) ++ List.replicate (2 - (lg_sl ([.int (nI a), .int (nI b)])).length) Slot.unset).toArray = ls at hl ⊢
  have hl : lv_has ls 2 [(0, .int (nI a)), (1, .int (nI b))] := hl
  have hP : va_P D vwCl ws s.heap := hP
  have hD : va_D (zAb B) ws := hD
  refine lv_bipush (v := 26) hx hb dX5_pairOf_0 (by decide) ?_
  refine lv_bipush (v := 26) hx hb dX5_pairOf_2 (by decide) ?_
  refine lv_iload_n hx hb dX5_pairOf_4 rfl (lv_at hl 0 rfl) ?_
  refine lv_imul hx hb dX5_pairOf_5 ?_
  refine lv_topi (fun v_1 ev_1 => ?_)
  obtain rfl : v_1 = (nI (26 * a)) := ev_1.trans (pk_mul 26 a)
  refine lv_iadd hx hb dX5_pairOf_6 ?_
  refine lv_topi (fun v_2 ev_2 => ?_)
  obtain rfl : v_2 = (nI (26 + (26 * a))) := ev_2.trans (nI_add 26 (26 * a))
  refine lv_iload_n hx hb dX5_pairOf_7 rfl (lv_at hl 1 rfl) ?_
  refine lv_iadd hx hb dX5_pairOf_8 ?_
  refine lv_topi (fun v_3 ev_3 => ?_)
  obtain rfl : v_3 = (nI ((26 + (26 * a)) + b)) := ev_3.trans (nI_add (26 + (26 * a)) b)
  exact W.iret (v := (nI ((26 + (26 * a)) + b))) hx hb hr (fun t ht hW => ⟨⟨_, (), rfl, congrArg nI (by omega), by rw [ht]; exact hP, hD⟩, hS.F ht⟩) hS.2.2 dX5_pairOf_9

set_option maxHeartbeats 1000000 in
set_option maxRecDepth 100000 in
theorem c_X5_size {l : Launch} {B kr kp : Nat} {D : va_G} {cI cJ cZ : ClassId} {ws : va_W} {w : Int64}    : Met l yX5_size wsX5_size ({ frames := 0, cells := 0, slots := 0, locals := 0 }) (zPc B kr kp D (zTy cI cJ cZ) ws [.long w]) (zQi B D ws (nI (zsz w))) 0 0 (zAb B) := by
  refine Met.ofW (cc := cX5_size) (maxL := 3) (ret := (some .int)) (by decide) rfl ?_
  intro p e s m args below meth c s₁ B0 hml hv
  obtain ⟨rfl, hP, hD, hK, hE, hB⟩ := hv
  have hx := B0.exec
  have hb := B0.bytes
  have hr := B0.returns
  have hts := atoms_spec (ws := wsX5_size) B0.pre
  have hown : s.vm.findClass RX5 = some m.cls := findClass_of_methodNamed B0.named
  have hlocks := B0.notSynchronized
  have hA : ∀ q : Nat, s.heap.size ≤ q → zAb B q := fun q hq => Nat.le_trans hB hq
  have hS : va_S (zAb B) s.heap s.heap [] := va_S.rf
  have hl := lv_entry ([.long w]) (n := 3) (Nat.le_of_ble_eq_true rfl)
  rw [lg_entry_eq]
  generalize (lg_sl ([.long w]) ++ List.replicate (3 - (lg_sl ([.long w])).length) Slot.unset).toArray = ls at hl ⊢
  have hl : lv_has ls 3 [(0, .long w)] := hl
  have hP : va_P D vwCl ws s.heap := hP
  have hD : va_D (zAb B) ws := hD
  refine lv_iconst (v := 0) hx hb dX5_size_0 (by decide) ?_
  refine lv_istore_n (lv' := [(2, .int 0), (0, .long w)]) hx hb dX5_size_1 rfl hl (by decide) rfl (fun ls hl => ?_)
  refine zloop (σ := (Nat)) (nL := 3) (fun x9 => ws) (fun x9 => [(2, .int (nI x9)), (0, .long w)]) (fun x9 => []) (fun x9 => x9 ≤ 8 ∧ zszA w (8 - x9) x9 = zsz w) (fun x9 => 8 - x9) ?_ (0) (⟨by omega, rfl⟩) _ _ _ hP hD hS (lv_sub hl [0, 1] rfl)
  rintro s9 hI ih H locs ls hP hD hS hl
  try dsimp only at hI ih hP hD hS hl ⊢
  refine lv_iload_n hx hb dX5_size_2 rfl (lv_at hl 0 rfl) ?_
  refine lv_bipush (v := 8) hx hb dX5_size_3 (by decide) ?_
  refine lv_icmp_ge (tgt := 25) hx hb dX5_size_5 (by decide) (fun c_1 => ?_) (fun c_1 => ?_)
  · skip
    have c_1 : 8 ≤ s9 := (nI_leI (a := 8) (b := s9) (by omega) (by omega)).mp c_1
    refine lv_iload_n hx hb dX5_size_25 rfl (lv_at hl 0 rfl) ?_
    exact W.iret (v := (nI s9)) hx hb hr (fun t ht hW => ⟨⟨_, (), rfl, by first | exact congrArg nI ((zszA_stop (by omega) (by assumption)).symm.trans hI.2) | (obtain rfl : s9 = 8 := (by omega); exact congrArg nI hI.2), by rw [ht]; exact hP, hD⟩, hS.F ht⟩) hS.2.2 dX5_size_26
  · skip
    have c_1 : ¬ 8 ≤ s9 := fun hh => c_1 ((nI_leI (a := 8) (b := s9) (by omega) (by omega)).mpr hh)
    refine lv_lload_n hx hb dX5_size_8 rfl (lv_at hl 1 rfl) ?_
    refine lv_bipush (v := 8) hx hb dX5_size_9 (by decide) ?_
    refine lv_iload_n hx hb dX5_size_11 rfl (lv_at hl 0 rfl) ?_
    refine lv_imul hx hb dX5_size_12 ?_
    refine lv_topi (fun v_2 ev_2 => ?_)
    obtain rfl : v_2 = (nI (8 * s9)) := ev_2.trans (pk_mul 8 s9)
    refine lv_lushr (v := (w.toUInt64 >>> ((nI (8 * s9)).toInt64.toUInt64 &&& Int64.toUInt64 63)).toInt64) hx hb dX5_size_13 rfl ?_
    refine lv_lconst (v := 0) hx hb dX5_size_14 (by decide) ?_
    refine W.lcmp hx hb dX5_size_15 ?_
    refine lv_if_eq (tgt := 25) hx hb dX5_size_16 (by decide) (fun c_3 => ?_) (fun c_3 => ?_)
    · skip
      have c_3 : ((w.toUInt64 >>> ((nI (8 * s9)).toInt64.toUInt64 &&& Int64.toUInt64 63)).toInt64) = 0 := (lg_cmp_eq _ _).mp c_3
      refine lv_iload_n hx hb dX5_size_25 rfl (lv_at hl 0 rfl) ?_
      exact W.iret (v := (nI s9)) hx hb hr (fun t ht hW => ⟨⟨_, (), rfl, by first | exact congrArg nI ((zszA_stop (by omega) (by assumption)).symm.trans hI.2) | (obtain rfl : s9 = 8 := (by omega); exact congrArg nI hI.2), by rw [ht]; exact hP, hD⟩, hS.F ht⟩) hS.2.2 dX5_size_26
    · skip
      have c_3 : ¬ ((w.toUInt64 >>> ((nI (8 * s9)).toInt64.toUInt64 &&& Int64.toUInt64 63)).toInt64) = 0 := fun hh => c_3 ((lg_cmp_eq _ _).mpr hh)
      refine lv_iinc (v := (nI (s9 + 1))) (lv' := [(2, .int (nI (s9 + 1))), (0, .long w)]) hx hb dX5_size_19 hl (k := 0) rfl (nI_add s9 1) (by decide) rfl (fun ls hl => ?_)
      refine lv_goto (tgt := 2) hx hb dX5_size_22 (by decide) ?_
      exact ih ((s9 + 1)) (⟨by omega, (zszA_step (by omega) (by assumption)).symm.trans hI.2⟩) (by omega) _ _ _ hP hD hS (lv_sub hl [0, 1] rfl)

set_option maxHeartbeats 1000000 in
set_option maxRecDepth 100000 in
theorem c_X5_letter {l : Launch} {B kr kp : Nat} {D : va_G} {cI cJ cZ : ClassId} {ws : va_W} {w : Int64} {k : Nat}   (hk : k < zsz w) : Met l yX5_letter wsX5_letter ({ frames := 1, cells := 0, slots := 0, locals := 22 }) (zPc B kr kp D (zTy cI cJ cZ) ws [.long w, .int (nI k)]) (zQi B D ws (zlt w (zsz w - 1 - k))) 0 0 (zAb B) := by
  refine Met.ofW (cc := cX5_letter) (maxL := 3) (ret := (some .int)) (by decide) rfl ?_
  intro p e s m args below meth c s₁ B0 hml hv
  obtain ⟨rfl, hP, hD, hK, hE, hB⟩ := hv
  have hx := B0.exec
  have hb := B0.bytes
  have hr := B0.returns
  have hts := atoms_spec (ws := wsX5_letter) B0.pre
  have hown : s.vm.findClass RX5 = some m.cls := findClass_of_methodNamed B0.named
  have hlocks := B0.notSynchronized
  have hA : ∀ q : Nat, s.heap.size ≤ q → zAb B q := fun q hq => Nat.le_trans hB hq
  have hS : va_S (zAb B) s.heap s.heap [] := va_S.rf
  have hl := lv_entry ([.long w, .int (nI k)]) (n := 3) (Nat.le_of_ble_eq_true rfl)
  rw [lg_entry_eq]
  generalize (lg_sl ([.long w, .int (nI k)]) ++ List.replicate (3 - (lg_sl ([.long w, .int (nI k)])).length) Slot.unset).toArray = ls at hl ⊢
  have hl : lv_has ls 3 [(0, .long w), (2, .int (nI k))] := hl
  have hP : va_P D vwCl ws s.heap := hP
  have hD : va_D (zAb B) ws := hD
  have h8 := zsz_le w
  refine lv_lload_n hx hb dX5_letter_0 rfl (lv_at hl 0 rfl) ?_
  refine lv_bipush (v := 8) hx hb dX5_letter_1 (by decide) ?_
  refine lv_lload_n hx hb dX5_letter_3 rfl (lv_at hl 0 rfl) ?_
  refine zci (zrS (As := [.long w]) (rest := [.int 8, .long w]) ⟨hx, hb, hml, hown, hts⟩ (zS hP hD hK hE hB hS) (c_X5_size  ) (va_cwS 1 hts gX5_letter_X5_size rfl rfl rfl hds_X5_size ⟨Nat.le_of_ble_eq_true rfl, Nat.le_of_ble_eq_true rfl⟩) rfl rfl hl.1 rfl (lv_room (Nat.le_of_ble_eq_true rfl)) dX5_letter_4 ⟨Nat.le_of_ble_eq_true rfl, Nat.le_of_ble_eq_true rfl⟩) hS (fun H locs hP hD hS => ?_)
  refine lv_iconst (v := 1) hx hb dX5_letter_7 (by decide) ?_
  refine lv_isub hx hb dX5_letter_8 ?_
  refine lv_topi (fun v_1 ev_1 => ?_)
  obtain rfl : v_1 = (nI ((zsz w) - 1)) := ev_1.trans (pk_sub (a := (zsz w)) (b := 1) (by omega))
  refine lv_iload_n hx hb dX5_letter_9 rfl (lv_at hl 1 rfl) ?_
  refine lv_isub hx hb dX5_letter_10 ?_
  refine lv_topi (fun v_2 ev_2 => ?_)
  obtain rfl : v_2 = (nI (((zsz w) - 1) - k)) := ev_2.trans (pk_sub (a := ((zsz w) - 1)) (b := k) (by omega))
  refine lv_imul hx hb dX5_letter_11 ?_
  refine lv_topi (fun v_3 ev_3 => ?_)
  obtain rfl : v_3 = (nI (8 * (((zsz w) - 1) - k))) := ev_3.trans (pk_mul 8 (((zsz w) - 1) - k))
  refine lv_lushr (v := (w.toUInt64 >>> ((nI (8 * (((zsz w) - 1) - k))).toInt64.toUInt64 &&& Int64.toUInt64 63)).toInt64) hx hb dX5_letter_12 rfl ?_
  refine lv_ldc2 hx hb hown (hts (.constantLong RX5 53 (255)) (List.mem_of_getElem? (i := 1) rfl)) dX5_letter_13 ?_
  refine lv_land hx hb dX5_letter_16 ?_
  refine lv_l2i (v := ((((w.toUInt64 >>> ((nI (8 * (((zsz w) - 1) - k))).toInt64.toUInt64 &&& Int64.toUInt64 63)).toInt64) &&& 255)).toInt32) hx hb dX5_letter_17 rfl ?_
  refine lv_bipush (v := 97) hx hb dX5_letter_18 (by decide) ?_
  refine lv_isub hx hb dX5_letter_20 ?_
  exact W.iret (v := ((((((w.toUInt64 >>> ((nI (8 * (((zsz w) - 1) - k))).toInt64.toUInt64 &&& Int64.toUInt64 63)).toInt64) &&& 255)).toInt32) - 97)) hx hb hr (fun t ht hW => ⟨⟨_, (), rfl, rfl, by rw [ht]; exact hP, hD⟩, hS.F ht⟩) hS.2.2 dX5_letter_21

set_option maxHeartbeats 1000000 in
set_option maxRecDepth 100000 in
theorem c_X5_isWord {l : Launch} {B kr kp : Nat} {D : va_G} {cI cJ cZ : ClassId} {ws : va_W} {w : Int64}    : Met l yX5_isWord wsX5_isWord ({ frames := 2, cells := 0, slots := 0, locals := 44 }) (zPc B kr kp D (zTy cI cJ cZ) ws [.long w]) (zQi B D ws (zb (zok w))) 0 0 (zAb B) := by
  refine Met.ofW (cc := cX5_isWord) (maxL := 4) (ret := (some .boolean)) (by decide) rfl ?_
  intro p e s m args below meth c s₁ B0 hml hv
  obtain ⟨rfl, hP, hD, hK, hE, hB⟩ := hv
  have hx := B0.exec
  have hb := B0.bytes
  have hr := B0.returns
  have hts := atoms_spec (ws := wsX5_isWord) B0.pre
  have hown : s.vm.findClass RX5 = some m.cls := findClass_of_methodNamed B0.named
  have hlocks := B0.notSynchronized
  have hA : ∀ q : Nat, s.heap.size ≤ q → zAb B q := fun q hq => Nat.le_trans hB hq
  have hS : va_S (zAb B) s.heap s.heap [] := va_S.rf
  have hl := lv_entry ([.long w]) (n := 4) (Nat.le_of_ble_eq_true rfl)
  rw [lg_entry_eq]
  generalize (lg_sl ([.long w]) ++ List.replicate (4 - (lg_sl ([.long w])).length) Slot.unset).toArray = ls at hl ⊢
  have hl : lv_has ls 4 [(0, .long w)] := hl
  have hP : va_P D vwCl ws s.heap := hP
  have hD : va_D (zAb B) ws := hD
  have h8 := zsz_le w
  refine lv_lload_n hx hb dX5_isWord_0 rfl (lv_at hl 0 rfl) ?_
  refine lv_lconst (v := 0) hx hb dX5_isWord_1 (by decide) ?_
  refine W.lcmp hx hb dX5_isWord_2 ?_
  refine lv_if_eq (tgt := 10) hx hb dX5_isWord_3 (by decide) (fun c_1 => ?_) (fun c_1 => ?_)
  · skip
    have c_1 : w = 0 := (lg_cmp_eq _ _).mp c_1
    refine lv_iconst (v := 0) hx hb dX5_isWord_10 (by decide) ?_
    refine lv_istore_n (lv' := [(2, .int 0), (0, .long w)]) hx hb dX5_isWord_11 rfl hl (by decide) rfl (fun ls hl => ?_)
    refine lv_iconst (v := 0) hx hb dX5_isWord_12 (by decide) ?_
    refine lv_istore_n (lv' := [(3, .int 0), (2, .int 0), (0, .long w)]) hx hb dX5_isWord_13 rfl hl (by decide) rfl (fun ls hl => ?_)
    refine zloop (σ := (Nat) × (Bool)) (nL := 4) (fun x9 => ws) (fun x9 => [(3, .int (nI x9.1)), (2, .int (zb x9.2)), (0, .long w)]) (fun x9 => []) (fun x9 => (x9.1 ≤ zsz w) ∧ x9.2 = zokM w x9.1) (fun x9 => zsz w - x9.1) ?_ (0, false) (⟨by omega, (decide_eq_false (fun hh => hh c_1)).symm⟩) _ _ _ hP hD hS (lv_sub hl [0, 1, 2] rfl)
    rintro ⟨j, b⟩ hI ih H locs ls hP hD hS hl
    try dsimp only at hI ih hP hD hS hl ⊢
    obtain ⟨hI, rfl⟩ := hI
    refine lv_iload_n hx hb dX5_isWord_14 rfl (lv_at hl 0 rfl) ?_
    refine lv_lload_n hx hb dX5_isWord_15 rfl (lv_at hl 2 rfl) ?_
    refine zci (zrS (As := [.long w]) (rest := [.int (nI j)]) ⟨hx, hb, hml, hown, hts⟩ (zS hP hD hK hE hB hS) (c_X5_size  ) (va_cwS 1 hts gX5_isWord_X5_size rfl rfl rfl hds_X5_size ⟨Nat.le_of_ble_eq_true rfl, Nat.le_of_ble_eq_true rfl⟩) rfl rfl hl.1 rfl (lv_room (Nat.le_of_ble_eq_true rfl)) dX5_isWord_16 ⟨Nat.le_of_ble_eq_true rfl, Nat.le_of_ble_eq_true rfl⟩) hS (fun H locs hP hD hS => ?_)
    refine lv_icmp_ge (tgt := 49) hx hb dX5_isWord_19 (by decide) (fun c_2 => ?_) (fun c_2 => ?_)
    · skip
      have c_2 : (zsz w) ≤ j := (nI_leI (a := (zsz w)) (b := j) (by omega) (by omega)).mp c_2
      obtain rfl : zsz w = j := by omega
      refine lv_iload_n hx hb dX5_isWord_49 rfl (lv_at hl 1 rfl) ?_
      exact W.zret (v := (zb (zokM w (zsz w)))) hx hb hr zb_nar (fun t ht hW => ⟨⟨_, (), rfl, congrArg zb (zokM_eq w), by rw [ht]; exact hP, hD⟩, hS.F ht⟩) hS.2.2 dX5_isWord_50
    · skip
      have c_2 : ¬ (zsz w) ≤ j := fun hh => c_2 ((nI_leI (a := (zsz w)) (b := j) (by omega) (by omega)).mpr hh)
      refine lv_iload_n hx hb dX5_isWord_22 rfl (lv_at hl 1 rfl) ?_
      refine lv_if_eq (tgt := 41) hx hb dX5_isWord_23 (by decide) (fun c_3 => ?_) (fun c_3 => ?_)
      · skip
        have c_3 : (zokM w j) = false := zb_0 c_3
        refine lv_iconst (v := 0) hx hb dX5_isWord_41 (by decide) ?_
        refine lv_istore_n (lv' := [(2, .int 0), (3, .int (nI j)), (0, .long w)]) hx hb dX5_isWord_42 rfl hl (by decide) rfl (fun ls hl => ?_)
        refine lv_iinc (v := (nI (j + 1))) (lv' := [(3, .int (nI (j + 1))), (2, .int 0), (0, .long w)]) hx hb dX5_isWord_43 hl (k := 1) rfl (nI_add j 1) (by decide) rfl (fun ls hl => ?_)
        refine lv_goto (tgt := 14) hx hb dX5_isWord_46 (by decide) ?_
        exact ih (j + 1, false) (⟨by omega, (by rw [zokM, c_3, Bool.false_and])⟩) (by omega) _ _ _ hP hD hS (lv_sub hl [0, 1, 2] rfl)
      · skip
        have c_3 : (zokM w j) = true := zb_n c_3
        refine lv_lload_n hx hb dX5_isWord_26 rfl (lv_at hl 2 rfl) ?_
        refine lv_iload_n hx hb dX5_isWord_27 rfl (lv_at hl 0 rfl) ?_
        refine zci (zrS (As := [.long w, .int (nI j)]) (rest := []) ⟨hx, hb, hml, hown, hts⟩ (zS hP hD hK hE hB hS) (c_X5_letter (k := j) (by omega)) (va_cwS 2 hts gX5_isWord_X5_letter rfl rfl rfl hds_X5_letter ⟨Nat.le_of_ble_eq_true rfl, Nat.le_of_ble_eq_true rfl⟩) rfl rfl hl.1 rfl (lv_room (Nat.le_of_ble_eq_true rfl)) dX5_isWord_28 ⟨Nat.le_of_ble_eq_true rfl, Nat.le_of_ble_eq_true rfl⟩) hS (fun H locs hP hD hS => ?_)
        refine zci (zrS (As := [.int (zlt w (zsz w - 1 - j))]) (rest := []) ⟨hx, hb, hml, hown, hts⟩ (zS hP hD hK hE hB hS) (c_X5_isKey  ) (va_cwS 1 hts gX5_isWord_X5_isKey rfl rfl rfl hds_X5_isKey ⟨Nat.le_of_ble_eq_true rfl, Nat.le_of_ble_eq_true rfl⟩) rfl rfl hl.1 rfl (lv_room (Nat.le_of_ble_eq_true rfl)) dX5_isWord_31 ⟨Nat.le_of_ble_eq_true rfl, Nat.le_of_ble_eq_true rfl⟩) hS (fun H locs hP hD hS => ?_)
        refine lv_if_eq (tgt := 41) hx hb dX5_isWord_34 (by decide) (fun c_4 => ?_) (fun c_4 => ?_)
        · skip
          have c_4 := zq_0 c_4
          refine lv_iconst (v := 0) hx hb dX5_isWord_41 (by decide) ?_
          refine lv_istore_n (lv' := [(2, .int 0), (3, .int (nI j)), (0, .long w)]) hx hb dX5_isWord_42 rfl hl (by decide) rfl (fun ls hl => ?_)
          refine lv_iinc (v := (nI (j + 1))) (lv' := [(3, .int (nI (j + 1))), (2, .int 0), (0, .long w)]) hx hb dX5_isWord_43 hl (k := 1) rfl (nI_add j 1) (by decide) rfl (fun ls hl => ?_)
          refine lv_goto (tgt := 14) hx hb dX5_isWord_46 (by decide) ?_
          exact ih (j + 1, false) (⟨by omega, (by rw [zokM, zlk_nq c_4, Bool.and_false])⟩) (by omega) _ _ _ hP hD hS (lv_sub hl [0, 1, 2] rfl)
        · skip
          have c_4 := zq_n c_4
          refine lv_iconst (v := 1) hx hb dX5_isWord_37 (by decide) ?_
          refine lv_goto (tgt := 42) hx hb dX5_isWord_38 (by decide) ?_
          refine lv_istore_n (lv' := [(2, .int 1), (3, .int (nI j)), (0, .long w)]) hx hb dX5_isWord_42 rfl hl (by decide) rfl (fun ls hl => ?_)
          refine lv_iinc (v := (nI (j + 1))) (lv' := [(3, .int (nI (j + 1))), (2, .int 1), (0, .long w)]) hx hb dX5_isWord_43 hl (k := 1) rfl (nI_add j 1) (by decide) rfl (fun ls hl => ?_)
          refine lv_goto (tgt := 14) hx hb dX5_isWord_46 (by decide) ?_
          exact ih (j + 1, true) (⟨by omega, (by rw [zokM, c_3, zlk_q c_4]; rfl)⟩) (by omega) _ _ _ hP hD hS (lv_sub hl [0, 1, 2] rfl)
  · skip
    have c_1 : ¬ w = 0 := fun hh => c_1 ((lg_cmp_eq _ _).mpr hh)
    refine lv_iconst (v := 1) hx hb dX5_isWord_6 (by decide) ?_
    refine lv_goto (tgt := 11) hx hb dX5_isWord_7 (by decide) ?_
    refine lv_istore_n (lv' := [(2, .int 1), (0, .long w)]) hx hb dX5_isWord_11 rfl hl (by decide) rfl (fun ls hl => ?_)
    refine lv_iconst (v := 0) hx hb dX5_isWord_12 (by decide) ?_
    refine lv_istore_n (lv' := [(3, .int 0), (2, .int 1), (0, .long w)]) hx hb dX5_isWord_13 rfl hl (by decide) rfl (fun ls hl => ?_)
    refine zloop (σ := (Nat) × (Bool)) (nL := 4) (fun x9 => ws) (fun x9 => [(3, .int (nI x9.1)), (2, .int (zb x9.2)), (0, .long w)]) (fun x9 => []) (fun x9 => (x9.1 ≤ zsz w) ∧ x9.2 = zokM w x9.1) (fun x9 => zsz w - x9.1) ?_ (0, true) (⟨by omega, (decide_eq_true c_1).symm⟩) _ _ _ hP hD hS (lv_sub hl [0, 1, 2] rfl)
    rintro ⟨j, b⟩ hI ih H locs ls hP hD hS hl
    try dsimp only at hI ih hP hD hS hl ⊢
    obtain ⟨hI, rfl⟩ := hI
    refine lv_iload_n hx hb dX5_isWord_14 rfl (lv_at hl 0 rfl) ?_
    refine lv_lload_n hx hb dX5_isWord_15 rfl (lv_at hl 2 rfl) ?_
    refine zci (zrS (As := [.long w]) (rest := [.int (nI j)]) ⟨hx, hb, hml, hown, hts⟩ (zS hP hD hK hE hB hS) (c_X5_size  ) (va_cwS 1 hts gX5_isWord_X5_size rfl rfl rfl hds_X5_size ⟨Nat.le_of_ble_eq_true rfl, Nat.le_of_ble_eq_true rfl⟩) rfl rfl hl.1 rfl (lv_room (Nat.le_of_ble_eq_true rfl)) dX5_isWord_16 ⟨Nat.le_of_ble_eq_true rfl, Nat.le_of_ble_eq_true rfl⟩) hS (fun H locs hP hD hS => ?_)
    refine lv_icmp_ge (tgt := 49) hx hb dX5_isWord_19 (by decide) (fun c_5 => ?_) (fun c_5 => ?_)
    · skip
      have c_5 : (zsz w) ≤ j := (nI_leI (a := (zsz w)) (b := j) (by omega) (by omega)).mp c_5
      obtain rfl : zsz w = j := by omega
      refine lv_iload_n hx hb dX5_isWord_49 rfl (lv_at hl 1 rfl) ?_
      exact W.zret (v := (zb (zokM w (zsz w)))) hx hb hr zb_nar (fun t ht hW => ⟨⟨_, (), rfl, congrArg zb (zokM_eq w), by rw [ht]; exact hP, hD⟩, hS.F ht⟩) hS.2.2 dX5_isWord_50
    · skip
      have c_5 : ¬ (zsz w) ≤ j := fun hh => c_5 ((nI_leI (a := (zsz w)) (b := j) (by omega) (by omega)).mpr hh)
      refine lv_iload_n hx hb dX5_isWord_22 rfl (lv_at hl 1 rfl) ?_
      refine lv_if_eq (tgt := 41) hx hb dX5_isWord_23 (by decide) (fun c_6 => ?_) (fun c_6 => ?_)
      · skip
        have c_6 : (zokM w j) = false := zb_0 c_6
        refine lv_iconst (v := 0) hx hb dX5_isWord_41 (by decide) ?_
        refine lv_istore_n (lv' := [(2, .int 0), (3, .int (nI j)), (0, .long w)]) hx hb dX5_isWord_42 rfl hl (by decide) rfl (fun ls hl => ?_)
        refine lv_iinc (v := (nI (j + 1))) (lv' := [(3, .int (nI (j + 1))), (2, .int 0), (0, .long w)]) hx hb dX5_isWord_43 hl (k := 1) rfl (nI_add j 1) (by decide) rfl (fun ls hl => ?_)
        refine lv_goto (tgt := 14) hx hb dX5_isWord_46 (by decide) ?_
        exact ih (j + 1, false) (⟨by omega, (by rw [zokM, c_6, Bool.false_and])⟩) (by omega) _ _ _ hP hD hS (lv_sub hl [0, 1, 2] rfl)
      · skip
        have c_6 : (zokM w j) = true := zb_n c_6
        refine lv_lload_n hx hb dX5_isWord_26 rfl (lv_at hl 2 rfl) ?_
        refine lv_iload_n hx hb dX5_isWord_27 rfl (lv_at hl 0 rfl) ?_
        refine zci (zrS (As := [.long w, .int (nI j)]) (rest := []) ⟨hx, hb, hml, hown, hts⟩ (zS hP hD hK hE hB hS) (c_X5_letter (k := j) (by omega)) (va_cwS 2 hts gX5_isWord_X5_letter rfl rfl rfl hds_X5_letter ⟨Nat.le_of_ble_eq_true rfl, Nat.le_of_ble_eq_true rfl⟩) rfl rfl hl.1 rfl (lv_room (Nat.le_of_ble_eq_true rfl)) dX5_isWord_28 ⟨Nat.le_of_ble_eq_true rfl, Nat.le_of_ble_eq_true rfl⟩) hS (fun H locs hP hD hS => ?_)
        refine zci (zrS (As := [.int (zlt w (zsz w - 1 - j))]) (rest := []) ⟨hx, hb, hml, hown, hts⟩ (zS hP hD hK hE hB hS) (c_X5_isKey  ) (va_cwS 1 hts gX5_isWord_X5_isKey rfl rfl rfl hds_X5_isKey ⟨Nat.le_of_ble_eq_true rfl, Nat.le_of_ble_eq_true rfl⟩) rfl rfl hl.1 rfl (lv_room (Nat.le_of_ble_eq_true rfl)) dX5_isWord_31 ⟨Nat.le_of_ble_eq_true rfl, Nat.le_of_ble_eq_true rfl⟩) hS (fun H locs hP hD hS => ?_)
        refine lv_if_eq (tgt := 41) hx hb dX5_isWord_34 (by decide) (fun c_7 => ?_) (fun c_7 => ?_)
        · skip
          have c_7 := zq_0 c_7
          refine lv_iconst (v := 0) hx hb dX5_isWord_41 (by decide) ?_
          refine lv_istore_n (lv' := [(2, .int 0), (3, .int (nI j)), (0, .long w)]) hx hb dX5_isWord_42 rfl hl (by decide) rfl (fun ls hl => ?_)
          refine lv_iinc (v := (nI (j + 1))) (lv' := [(3, .int (nI (j + 1))), (2, .int 0), (0, .long w)]) hx hb dX5_isWord_43 hl (k := 1) rfl (nI_add j 1) (by decide) rfl (fun ls hl => ?_)
          refine lv_goto (tgt := 14) hx hb dX5_isWord_46 (by decide) ?_
          exact ih (j + 1, false) (⟨by omega, (by rw [zokM, zlk_nq c_7, Bool.and_false])⟩) (by omega) _ _ _ hP hD hS (lv_sub hl [0, 1, 2] rfl)
        · skip
          have c_7 := zq_n c_7
          refine lv_iconst (v := 1) hx hb dX5_isWord_37 (by decide) ?_
          refine lv_goto (tgt := 42) hx hb dX5_isWord_38 (by decide) ?_
          refine lv_istore_n (lv' := [(2, .int 1), (3, .int (nI j)), (0, .long w)]) hx hb dX5_isWord_42 rfl hl (by decide) rfl (fun ls hl => ?_)
          refine lv_iinc (v := (nI (j + 1))) (lv' := [(3, .int (nI (j + 1))), (2, .int 1), (0, .long w)]) hx hb dX5_isWord_43 hl (k := 1) rfl (nI_add j 1) (by decide) rfl (fun ls hl => ?_)
          refine lv_goto (tgt := 14) hx hb dX5_isWord_46 (by decide) ?_
          exact ih (j + 1, true) (⟨by omega, (by rw [zokM, c_6, zlk_q c_7]; rfl)⟩) (by omega) _ _ _ hP hD hS (lv_sub hl [0, 1, 2] rfl)

set_option maxHeartbeats 1000000 in
set_option maxRecDepth 100000 in
theorem c_X5_addWord {l : Launch} {B kr kp : Nat} {D : va_G} {cI cJ cZ : ClassId} {h : Nat → Nat} {R : va_W} {th : Int32} {n : Nat} {L : Nat → Int64} {kt : Nat → Int32} {km : Nat → Int32} {kl : Nat → Int32} {pt : Nat → Int32} {pm : Nat → Int32} {pl : Nat → Int32} {nu : Nat → Int32} {le : Nat → Int32} {af : Nat → Int32} {run : Bool} {wc : Nat} {lc : Nat} {tr : Nat} {cl : Nat} {tm : Nat} {ms : Nat} {co : Nat} {yn : Nat} {yh : Nat → Int32} {pa : Int32} {mc : Nat → Int32} {w : Int64}   (hz : zok w = true) (hn : n < 40) (hh9 : zhd L w n = false) : Met l yX5_addWord wsX5_addWord ({ frames := 3, cells := 0, slots := 0, locals := 67 }) (zPc B kr kp D (zTy cI cJ cZ) (zWM cI cJ cZ h th (n, L) ((zcb kt pt), (zcb km pm), (zcb kl pl)) mc (run, wc, nu, lc, le, af, tr, ms, cl, tm) (co, yn, yh, pa) ++ R) [.ref (h 0), .long w]) (zQi B D (zWM cI cJ cZ h 0 ((n + 1), (vp_updL L n w)) ((zcb kt pt), (zcb km pm), (zcb kl pl)) mc (run, wc, nu, lc, le, af, tr, ms, cl, tm) (co, yn, yh, pa) ++ R) (nI n)) 0 0 (zAb B) := by
  refine Met.ofW (cc := cX5_addWord) (maxL := 4) (ret := (some .int)) (by decide) rfl ?_
  intro p e s m args below meth c s₁ B0 hml hv
  obtain ⟨rfl, hP, hD, hK, hE, hB⟩ := hv
  have hx := B0.exec
  have hb := B0.bytes
  have hr := B0.returns
  have hts := atoms_spec (ws := wsX5_addWord) B0.pre
  have hown : s.vm.findClass RX5 = some m.cls := findClass_of_methodNamed B0.named
  have hlocks := B0.notSynchronized
  have hA : ∀ q : Nat, s.heap.size ≤ q → zAb B q := fun q hq => Nat.le_trans hB hq
  have hS : va_S (zAb B) s.heap s.heap [] := va_S.rf
  have hl := lv_entry ([.ref (h 0), .long w]) (n := 4) (Nat.le_of_ble_eq_true rfl)
  rw [lg_entry_eq]
  generalize (lg_sl ([.ref (h 0), .long w]) ++ List.replicate (4 - (lg_sl ([.ref (h 0), .long w])).length) Slot.unset).toArray = ls at hl ⊢
  have hl : lv_has ls 4 [(0, .ref (h 0)), (1, .long w)] := hl
  have hinX5 : ∀ w ∈ wsX50, w ∈ wsX5_addWord := fun _ h => List.mem_cons_of_mem _ (List.mem_append_right _ h)
  have hP : va_P D vwCl (zWM cI cJ cZ h th (n, L) ((zcb kt pt), (zcb km pm), (zcb kl pl)) mc (run, wc, nu, lc, le, af, tr, ms, cl, tm) (co, yn, yh, pa) ++ R) s.heap := hP
  have hD : va_D (zAb B) (zWM cI cJ cZ h th (n, L) ((zcb kt pt), (zcb km pm), (zcb kl pl)) mc (run, wc, nu, lc, le, af, tr, ms, cl, tm) (co, yn, yh, pa) ++ R) := hD
  refine lv_aload_n hx hb dX5_addWord_0 rfl (lv_at hl 0 rfl) ?_
  refine lv_iconst (v := 0) hx hb dX5_addWord_1 (by decide) ?_
  refine va_put (ci := 5) (v := .int 0) (ty := .int) (C := RX5) (T := TX5) (N := 20) hx hb hts hinX5 tyX5 tyX5_ok nmX5 hown hK hP hD hS 0 rfl rfl 0 (by decide) (hts (.fieldLink RX5 43 "TypingTutorModel" "thrown" "I") (List.mem_of_getElem? (i := 1) rfl)) (fun _ h9 => h9) rfl (by decide +kernel) rfl rfl (Nat.le_of_ble_eq_true rfl) dX5_addWord_2 (fun H locs hP hD hS => ?_)
  have hP : va_P D vwCl (zWM cI cJ cZ h 0 (n, L) ((zcb kt pt), (zcb km pm), (zcb kl pl)) mc (run, wc, nu, lc, le, af, tr, ms, cl, tm) (co, yn, yh, pa) ++ R) _ := hP
  have hD : va_D (zAb B) (zWM cI cJ cZ h 0 (n, L) ((zcb kt pt), (zcb km pm), (zcb kl pl)) mc (run, wc, nu, lc, le, af, tr, ms, cl, tm) (co, yn, yh, pa) ++ R) := hD
  refine lv_lload_n hx hb dX5_addWord_5 rfl (lv_at hl 1 rfl) ?_
  refine zci (zrS (As := [.long w]) (rest := []) ⟨hx, hb, hml, hown, hts⟩ (zS hP hD hK hE hB hS) (c_X5_isWord  ) (va_cwS 1 hts gX5_addWord_X5_isWord rfl rfl rfl hds_X5_isWord ⟨Nat.le_of_ble_eq_true rfl, Nat.le_of_ble_eq_true rfl⟩) rfl rfl hl.1 rfl (lv_room (Nat.le_of_ble_eq_true rfl)) dX5_addWord_6 ⟨Nat.le_of_ble_eq_true rfl, Nat.le_of_ble_eq_true rfl⟩) hS (fun H locs hP hD hS => ?_)
  have hP : va_P D vwCl (zWM cI cJ cZ h 0 (n, L) ((zcb kt pt), (zcb km pm), (zcb kl pl)) mc (run, wc, nu, lc, le, af, tr, ms, cl, tm) (co, yn, yh, pa) ++ R) _ := hP
  have hD : va_D (zAb B) (zWM cI cJ cZ h 0 (n, L) ((zcb kt pt), (zcb km pm), (zcb kl pl)) mc (run, wc, nu, lc, le, af, tr, ms, cl, tm) (co, yn, yh, pa) ++ R) := hD
  refine lv_if_ne (tgt := 18) hx hb dX5_addWord_9 (by decide) (fun c_1 => ?_) (fun c_1 => ?_)
  · skip
    have c_1 : (zok w) = true := zb_n c_1
    refine lv_aload_n hx hb dX5_addWord_18 rfl (lv_at hl 0 rfl) ?_
    refine va_get (ci := 5) (v := .int (nI n)) (C := RX5) (T := TX5) (N := 20) hx hb hts hinX5 hown hK hP 0 rfl rfl 1 (by decide) (hts (.fieldLink RX5 46 "TypingTutorModel" "words" "I") (List.mem_of_getElem? (i := 2) rfl)) (fun _ h9 => h9) rfl dX5_addWord_19 ?_
    refine lv_bipush (v := 40) hx hb dX5_addWord_22 (by decide) ?_
    refine lv_icmp_ne (tgt := 33) hx hb dX5_addWord_24 (by decide) (fun c_2 => ?_) (fun c_2 => ?_)
    · skip
      have c_2 : ¬ n = 40 := fun hh => c_2 ((nI_eq (a := n) (b := 40) (by omega) (by omega)).mpr hh)
      refine lv_iconst (v := 0) hx hb dX5_addWord_33 (by decide) ?_
      refine lv_istore_n (lv' := [(3, .int 0), (0, .ref (h 0)), (1, .long w)]) hx hb dX5_addWord_34 rfl hl (by decide) rfl (fun ls hl => ?_)
      refine zloop (σ := (Nat)) (nL := 4) (fun x9 => (zWM cI cJ cZ h 0 (n, L) ((zcb kt pt), (zcb km pm), (zcb kl pl)) mc (run, wc, nu, lc, le, af, tr, ms, cl, tm) (co, yn, yh, pa) ++ R)) (fun x9 => [(3, .int (nI x9)), (0, .ref (h 0)), (1, .long w)]) (fun x9 => []) (fun x9 => x9 ≤ n) (fun x9 => n - x9) ?_ (0) (by omega) _ _ _ hP hD hS (lv_sub hl [0, 1, 2] rfl)
      rintro j hI ih H locs ls hP hD hS hl
      try dsimp only at hI ih hP hD hS hl ⊢
      refine lv_iload_n hx hb dX5_addWord_35 rfl (lv_at hl 0 rfl) ?_
      refine lv_aload_n hx hb dX5_addWord_36 rfl (lv_at hl 1 rfl) ?_
      refine va_get (ci := 5) (v := .int (nI n)) (C := RX5) (T := TX5) (N := 20) hx hb hts hinX5 hown hK hP 0 rfl rfl 1 (by decide) (hts (.fieldLink RX5 46 "TypingTutorModel" "words" "I") (List.mem_of_getElem? (i := 2) rfl)) (fun _ h9 => h9) rfl dX5_addWord_37 ?_
      refine lv_icmp_ge (tgt := 66) hx hb dX5_addWord_40 (by decide) (fun c_3 => ?_) (fun c_3 => ?_)
      · skip
        have c_3 : n ≤ j := (nI_leI (a := n) (b := j) (by omega) (by omega)).mp c_3
        refine lv_aload_n hx hb dX5_addWord_66 rfl (lv_at hl 1 rfl) ?_
        refine va_get (ci := 5) (v := .ref (h 1)) (C := RX5) (T := TX5) (N := 20) hx hb hts hinX5 hown hK hP 0 rfl rfl 2 (by decide) (hts (.fieldLink RX5 9 "TypingTutorModel" "list" "[J") (List.mem_of_getElem? (i := 3) rfl)) (fun _ h9 => h9) rfl dX5_addWord_67 ?_
        refine lv_aload_n hx hb dX5_addWord_70 rfl (lv_at hl 1 rfl) ?_
        refine va_get (ci := 5) (v := .int (nI n)) (C := RX5) (T := TX5) (N := 20) hx hb hts hinX5 hown hK hP 0 rfl rfl 1 (by decide) (hts (.fieldLink RX5 46 "TypingTutorModel" "words" "I") (List.mem_of_getElem? (i := 2) rfl)) (fun _ h9 => h9) rfl dX5_addWord_71 ?_
        refine lv_lload_n hx hb dX5_addWord_74 rfl (lv_at hl 2 rfl) ?_
        refine va_last hx hb hK hP hD hS 1 1 rfl rfl (vp_in_nI (n := n) (N := 40) (by omega) (by omega)) dX5_addWord_75 (fun H locs hP hD hS => ?_)
        rw [pk_cl (x := (nI n)) n (rfl) (by omega)] at hP hD
        have hP : va_P D vwCl (zWM cI cJ cZ h 0 (n, (vp_updL L n w)) ((zcb kt pt), (zcb km pm), (zcb kl pl)) mc (run, wc, nu, lc, le, af, tr, ms, cl, tm) (co, yn, yh, pa) ++ R) _ := hP
        have hD : va_D (zAb B) (zWM cI cJ cZ h 0 (n, (vp_updL L n w)) ((zcb kt pt), (zcb km pm), (zcb kl pl)) mc (run, wc, nu, lc, le, af, tr, ms, cl, tm) (co, yn, yh, pa) ++ R) := hD
        refine lv_aload_n hx hb dX5_addWord_76 rfl (lv_at hl 1 rfl) ?_
        refine lv_dup hx hb dX5_addWord_77 rfl ?_
        refine va_get (ci := 5) (v := .int (nI n)) (C := RX5) (T := TX5) (N := 20) hx hb hts hinX5 hown hK hP 0 rfl rfl 1 (by decide) (hts (.fieldLink RX5 46 "TypingTutorModel" "words" "I") (List.mem_of_getElem? (i := 2) rfl)) (fun _ h9 => h9) rfl dX5_addWord_78 ?_
        refine lv_iconst (v := 1) hx hb dX5_addWord_81 (by decide) ?_
        refine lv_iadd hx hb dX5_addWord_82 ?_
        refine lv_topi (fun v_4 ev_4 => ?_)
        obtain rfl : v_4 = (nI (n + 1)) := ev_4.trans (nI_add n 1)
        refine va_put (ci := 5) (v := .int (nI (n + 1))) (ty := .int) (C := RX5) (T := TX5) (N := 20) hx hb hts hinX5 tyX5 tyX5_ok nmX5 hown hK hP hD hS 0 rfl rfl 1 (by decide) (hts (.fieldLink RX5 46 "TypingTutorModel" "words" "I") (List.mem_of_getElem? (i := 2) rfl)) (fun _ h9 => h9) rfl (by decide +kernel) rfl rfl (Nat.le_of_ble_eq_true rfl) dX5_addWord_83 (fun H locs hP hD hS => ?_)
        have hP : va_P D vwCl (zWM cI cJ cZ h 0 ((n + 1), (vp_updL L n w)) ((zcb kt pt), (zcb km pm), (zcb kl pl)) mc (run, wc, nu, lc, le, af, tr, ms, cl, tm) (co, yn, yh, pa) ++ R) _ := hP
        have hD : va_D (zAb B) (zWM cI cJ cZ h 0 ((n + 1), (vp_updL L n w)) ((zcb kt pt), (zcb km pm), (zcb kl pl)) mc (run, wc, nu, lc, le, af, tr, ms, cl, tm) (co, yn, yh, pa) ++ R) := hD
        refine lv_aload_n hx hb dX5_addWord_86 rfl (lv_at hl 1 rfl) ?_
        refine va_get (ci := 5) (v := .int (nI (n + 1))) (C := RX5) (T := TX5) (N := 20) hx hb hts hinX5 hown hK hP 0 rfl rfl 1 (by decide) (hts (.fieldLink RX5 46 "TypingTutorModel" "words" "I") (List.mem_of_getElem? (i := 2) rfl)) (fun _ h9 => h9) rfl dX5_addWord_87 ?_
        refine lv_iconst (v := 1) hx hb dX5_addWord_90 (by decide) ?_
        refine lv_isub hx hb dX5_addWord_91 ?_
        refine lv_topi (fun v_5 ev_5 => ?_)
        obtain rfl : v_5 = (nI n) := ev_5.trans ((pk_sub (a := (n + 1)) (b := 1) (by omega)).trans (congrArg nI (by omega)))
        exact W.iret (v := (nI n)) hx hb hr (fun t ht hW => ⟨⟨_, (), rfl, rfl, by rw [ht]; exact hP, hD⟩, hS.F ht⟩) hS.2.2 dX5_addWord_92
      · skip
        have c_3 : ¬ n ≤ j := fun hh => c_3 ((nI_leI (a := n) (b := j) (by omega) (by omega)).mpr hh)
        refine lv_aload_n hx hb dX5_addWord_43 rfl (lv_at hl 1 rfl) ?_
        refine va_get (ci := 5) (v := .ref (h 1)) (C := RX5) (T := TX5) (N := 20) hx hb hts hinX5 hown hK hP 0 rfl rfl 2 (by decide) (hts (.fieldLink RX5 9 "TypingTutorModel" "list" "[J") (List.mem_of_getElem? (i := 3) rfl)) (fun _ h9 => h9) rfl dX5_addWord_44 ?_
        refine lv_iload_n hx hb dX5_addWord_47 rfl (lv_at hl 0 rfl) ?_
        refine va_lald hx hb hK hP 1 1 rfl rfl (vp_in_nI (n := j) (N := 40) (by omega) (by omega)) dX5_addWord_48 ?_
        rw [pk_cl (x := (nI j)) j (rfl) (by omega)]
        refine lv_lload_n hx hb dX5_addWord_49 rfl (lv_at hl 2 rfl) ?_
        refine W.lcmp hx hb dX5_addWord_50 ?_
        refine lv_if_ne (tgt := 60) hx hb dX5_addWord_51 (by decide) (fun c_6 => ?_) (fun c_6 => ?_)
        · skip
          have c_6 : ¬ (L j) = w := fun hh => c_6 ((lg_cmp_eq _ _).mpr hh)
          refine lv_iinc (v := (nI (j + 1))) (lv' := [(3, .int (nI (j + 1))), (0, .ref (h 0)), (1, .long w)]) hx hb dX5_addWord_60 hl (k := 0) rfl (nI_add j 1) (by decide) rfl (fun ls hl => ?_)
          refine lv_goto (tgt := 35) hx hb dX5_addWord_63 (by decide) ?_
          exact ih (j + 1) (by omega) (by omega) _ _ _ hP hD hS (lv_sub hl [0, 1, 2] rfl)
        · skip
          have c_6 : (L j) = w := (lg_cmp_eq _ _).mp c_6
          exact absurd ((zhd_in c_6 (by omega)).symm.trans hh9) (by decide)
    · skip
      have c_2 : n = 40 := (nI_eq (a := n) (b := 40) (by omega) (by omega)).mp c_2
      omega
  · skip
    have c_1 : (zok w) = false := zb_0 c_1
    exact absurd (c_1.symm.trans hz) (by decide)

set_option maxHeartbeats 1000000 in
set_option maxRecDepth 100000 in
theorem c_X5_addWord_x1 {l : Launch} {B kr kp : Nat} {D : va_G} {cI cJ cZ : ClassId} {h : Nat → Nat} {R : va_W} {th : Int32} {n : Nat} {L : Nat → Int64} {kt : Nat → Int32} {km : Nat → Int32} {kl : Nat → Int32} {pt : Nat → Int32} {pm : Nat → Int32} {pl : Nat → Int32} {nu : Nat → Int32} {le : Nat → Int32} {af : Nat → Int32} {run : Bool} {wc : Nat} {lc : Nat} {tr : Nat} {cl : Nat} {tm : Nat} {ms : Nat} {co : Nat} {yn : Nat} {yh : Nat → Int32} {pa : Int32} {mc : Nat → Int32} {w : Int64}   (hz : zok w = false) : Met l yX5_addWord wsX5_addWord ({ frames := 3, cells := 0, slots := 0, locals := 67 }) (zPc B kr kp D (zTy cI cJ cZ) (zWM cI cJ cZ h th (n, L) ((zcb kt pt), (zcb km pm), (zcb kl pl)) mc (run, wc, nu, lc, le, af, tr, ms, cl, tm) (co, yn, yh, pa) ++ R) [.ref (h 0), .long w]) (zQi B D (zWM cI cJ cZ h 1 (n, L) ((zcb kt pt), (zcb km pm), (zcb kl pl)) mc (run, wc, nu, lc, le, af, tr, ms, cl, tm) (co, yn, yh, pa) ++ R) 0) 0 0 (zAb B) := by
  refine Met.ofW (cc := cX5_addWord) (maxL := 4) (ret := (some .int)) (by decide) rfl ?_
  intro p e s m args below meth c s₁ B0 hml hv
  obtain ⟨rfl, hP, hD, hK, hE, hB⟩ := hv
  have hx := B0.exec
  have hb := B0.bytes
  have hr := B0.returns
  have hts := atoms_spec (ws := wsX5_addWord) B0.pre
  have hown : s.vm.findClass RX5 = some m.cls := findClass_of_methodNamed B0.named
  have hlocks := B0.notSynchronized
  have hA : ∀ q : Nat, s.heap.size ≤ q → zAb B q := fun q hq => Nat.le_trans hB hq
  have hS : va_S (zAb B) s.heap s.heap [] := va_S.rf
  have hl := lv_entry ([.ref (h 0), .long w]) (n := 4) (Nat.le_of_ble_eq_true rfl)
  rw [lg_entry_eq]
  generalize (lg_sl ([.ref (h 0), .long w]) ++ List.replicate (4 - (lg_sl ([.ref (h 0), .long w])).length) Slot.unset).toArray = ls at hl ⊢
  have hl : lv_has ls 4 [(0, .ref (h 0)), (1, .long w)] := hl
  have hinX5 : ∀ w ∈ wsX50, w ∈ wsX5_addWord := fun _ h => List.mem_cons_of_mem _ (List.mem_append_right _ h)
  have hP : va_P D vwCl (zWM cI cJ cZ h th (n, L) ((zcb kt pt), (zcb km pm), (zcb kl pl)) mc (run, wc, nu, lc, le, af, tr, ms, cl, tm) (co, yn, yh, pa) ++ R) s.heap := hP
  have hD : va_D (zAb B) (zWM cI cJ cZ h th (n, L) ((zcb kt pt), (zcb km pm), (zcb kl pl)) mc (run, wc, nu, lc, le, af, tr, ms, cl, tm) (co, yn, yh, pa) ++ R) := hD
  refine lv_aload_n hx hb dX5_addWord_0 rfl (lv_at hl 0 rfl) ?_
  refine lv_iconst (v := 0) hx hb dX5_addWord_1 (by decide) ?_
  refine va_put (ci := 5) (v := .int 0) (ty := .int) (C := RX5) (T := TX5) (N := 20) hx hb hts hinX5 tyX5 tyX5_ok nmX5 hown hK hP hD hS 0 rfl rfl 0 (by decide) (hts (.fieldLink RX5 43 "TypingTutorModel" "thrown" "I") (List.mem_of_getElem? (i := 1) rfl)) (fun _ h9 => h9) rfl (by decide +kernel) rfl rfl (Nat.le_of_ble_eq_true rfl) dX5_addWord_2 (fun H locs hP hD hS => ?_)
  have hP : va_P D vwCl (zWM cI cJ cZ h 0 (n, L) ((zcb kt pt), (zcb km pm), (zcb kl pl)) mc (run, wc, nu, lc, le, af, tr, ms, cl, tm) (co, yn, yh, pa) ++ R) _ := hP
  have hD : va_D (zAb B) (zWM cI cJ cZ h 0 (n, L) ((zcb kt pt), (zcb km pm), (zcb kl pl)) mc (run, wc, nu, lc, le, af, tr, ms, cl, tm) (co, yn, yh, pa) ++ R) := hD
  refine lv_lload_n hx hb dX5_addWord_5 rfl (lv_at hl 1 rfl) ?_
  refine zci (zrS (As := [.long w]) (rest := []) ⟨hx, hb, hml, hown, hts⟩ (zS hP hD hK hE hB hS) (c_X5_isWord  ) (va_cwS 1 hts gX5_addWord_X5_isWord rfl rfl rfl hds_X5_isWord ⟨Nat.le_of_ble_eq_true rfl, Nat.le_of_ble_eq_true rfl⟩) rfl rfl hl.1 rfl (lv_room (Nat.le_of_ble_eq_true rfl)) dX5_addWord_6 ⟨Nat.le_of_ble_eq_true rfl, Nat.le_of_ble_eq_true rfl⟩) hS (fun H locs hP hD hS => ?_)
  have hP : va_P D vwCl (zWM cI cJ cZ h 0 (n, L) ((zcb kt pt), (zcb km pm), (zcb kl pl)) mc (run, wc, nu, lc, le, af, tr, ms, cl, tm) (co, yn, yh, pa) ++ R) _ := hP
  have hD : va_D (zAb B) (zWM cI cJ cZ h 0 (n, L) ((zcb kt pt), (zcb km pm), (zcb kl pl)) mc (run, wc, nu, lc, le, af, tr, ms, cl, tm) (co, yn, yh, pa) ++ R) := hD
  refine lv_if_ne (tgt := 18) hx hb dX5_addWord_9 (by decide) (fun c_1 => ?_) (fun c_1 => ?_)
  · skip
    have c_1 : (zok w) = true := zb_n c_1
    exact absurd (c_1.symm.trans hz) (by decide)
  · skip
    have c_1 : (zok w) = false := zb_0 c_1
    refine lv_aload_n hx hb dX5_addWord_12 rfl (lv_at hl 0 rfl) ?_
    refine lv_iconst (v := 1) hx hb dX5_addWord_13 (by decide) ?_
    refine zci (zrV (As := [.int 1]) (rest := []) ⟨hx, hb, hml, hown, hts⟩ (zV 0 hP hD hK hE hB hS rfl rfl) (c_X5_fail  ) (cwV 1 hts gX5_addWord_X5_fail rfl rfl rfl hdv_X5_fail ⟨Nat.le_of_ble_eq_true rfl, Nat.le_of_ble_eq_true rfl⟩) rfl rfl hl.1 rfl (lv_room (Nat.le_of_ble_eq_true rfl)) dX5_addWord_14 ⟨Nat.le_of_ble_eq_true rfl, Nat.le_of_ble_eq_true rfl⟩) hS (fun H locs hP hD hS => ?_)
    have hP : va_P D vwCl (zWM cI cJ cZ h 1 (n, L) ((zcb kt pt), (zcb km pm), (zcb kl pl)) mc (run, wc, nu, lc, le, af, tr, ms, cl, tm) (co, yn, yh, pa) ++ R) _ := hP
    have hD : va_D (zAb B) (zWM cI cJ cZ h 1 (n, L) ((zcb kt pt), (zcb km pm), (zcb kl pl)) mc (run, wc, nu, lc, le, af, tr, ms, cl, tm) (co, yn, yh, pa) ++ R) := hD
    exact W.iret (v := 0) hx hb hr (fun t ht hW => ⟨⟨_, (), rfl, rfl, by rw [ht]; exact hP, hD⟩, hS.F ht⟩) hS.2.2 dX5_addWord_17

set_option maxHeartbeats 1000000 in
set_option maxRecDepth 100000 in
theorem c_X5_addWord_x2 {l : Launch} {B kr kp : Nat} {D : va_G} {cI cJ cZ : ClassId} {h : Nat → Nat} {R : va_W} {th : Int32} {n : Nat} {L : Nat → Int64} {kt : Nat → Int32} {km : Nat → Int32} {kl : Nat → Int32} {pt : Nat → Int32} {pm : Nat → Int32} {pl : Nat → Int32} {nu : Nat → Int32} {le : Nat → Int32} {af : Nat → Int32} {run : Bool} {wc : Nat} {lc : Nat} {tr : Nat} {cl : Nat} {tm : Nat} {ms : Nat} {co : Nat} {yn : Nat} {yh : Nat → Int32} {pa : Int32} {mc : Nat → Int32} {w : Int64}   (hz : zok w = true) (hn : n ≤ 40) (hf : ¬ n < 40 ∨ zhd L w n = true) : Met l yX5_addWord wsX5_addWord ({ frames := 3, cells := 0, slots := 0, locals := 67 }) (zPc B kr kp D (zTy cI cJ cZ) (zWM cI cJ cZ h th (n, L) ((zcb kt pt), (zcb km pm), (zcb kl pl)) mc (run, wc, nu, lc, le, af, tr, ms, cl, tm) (co, yn, yh, pa) ++ R) [.ref (h 0), .long w]) (zQi B D (zWM cI cJ cZ h 2 (n, L) ((zcb kt pt), (zcb km pm), (zcb kl pl)) mc (run, wc, nu, lc, le, af, tr, ms, cl, tm) (co, yn, yh, pa) ++ R) 0) 0 0 (zAb B) := by
  refine Met.ofW (cc := cX5_addWord) (maxL := 4) (ret := (some .int)) (by decide) rfl ?_
  intro p e s m args below meth c s₁ B0 hml hv
  obtain ⟨rfl, hP, hD, hK, hE, hB⟩ := hv
  have hx := B0.exec
  have hb := B0.bytes
  have hr := B0.returns
  have hts := atoms_spec (ws := wsX5_addWord) B0.pre
  have hown : s.vm.findClass RX5 = some m.cls := findClass_of_methodNamed B0.named
  have hlocks := B0.notSynchronized
  have hA : ∀ q : Nat, s.heap.size ≤ q → zAb B q := fun q hq => Nat.le_trans hB hq
  have hS : va_S (zAb B) s.heap s.heap [] := va_S.rf
  have hl := lv_entry ([.ref (h 0), .long w]) (n := 4) (Nat.le_of_ble_eq_true rfl)
  rw [lg_entry_eq]
  generalize (lg_sl ([.ref (h 0), .long w]) ++ List.replicate (4 - (lg_sl ([.ref (h 0), .long w])).length) Slot.unset).toArray = ls at hl ⊢
  have hl : lv_has ls 4 [(0, .ref (h 0)), (1, .long w)] := hl
  have hinX5 : ∀ w ∈ wsX50, w ∈ wsX5_addWord := fun _ h => List.mem_cons_of_mem _ (List.mem_append_right _ h)
  have hP : va_P D vwCl (zWM cI cJ cZ h th (n, L) ((zcb kt pt), (zcb km pm), (zcb kl pl)) mc (run, wc, nu, lc, le, af, tr, ms, cl, tm) (co, yn, yh, pa) ++ R) s.heap := hP
  have hD : va_D (zAb B) (zWM cI cJ cZ h th (n, L) ((zcb kt pt), (zcb km pm), (zcb kl pl)) mc (run, wc, nu, lc, le, af, tr, ms, cl, tm) (co, yn, yh, pa) ++ R) := hD
  refine lv_aload_n hx hb dX5_addWord_0 rfl (lv_at hl 0 rfl) ?_
  refine lv_iconst (v := 0) hx hb dX5_addWord_1 (by decide) ?_
  refine va_put (ci := 5) (v := .int 0) (ty := .int) (C := RX5) (T := TX5) (N := 20) hx hb hts hinX5 tyX5 tyX5_ok nmX5 hown hK hP hD hS 0 rfl rfl 0 (by decide) (hts (.fieldLink RX5 43 "TypingTutorModel" "thrown" "I") (List.mem_of_getElem? (i := 1) rfl)) (fun _ h9 => h9) rfl (by decide +kernel) rfl rfl (Nat.le_of_ble_eq_true rfl) dX5_addWord_2 (fun H locs hP hD hS => ?_)
  have hP : va_P D vwCl (zWM cI cJ cZ h 0 (n, L) ((zcb kt pt), (zcb km pm), (zcb kl pl)) mc (run, wc, nu, lc, le, af, tr, ms, cl, tm) (co, yn, yh, pa) ++ R) _ := hP
  have hD : va_D (zAb B) (zWM cI cJ cZ h 0 (n, L) ((zcb kt pt), (zcb km pm), (zcb kl pl)) mc (run, wc, nu, lc, le, af, tr, ms, cl, tm) (co, yn, yh, pa) ++ R) := hD
  refine lv_lload_n hx hb dX5_addWord_5 rfl (lv_at hl 1 rfl) ?_
  refine zci (zrS (As := [.long w]) (rest := []) ⟨hx, hb, hml, hown, hts⟩ (zS hP hD hK hE hB hS) (c_X5_isWord  ) (va_cwS 1 hts gX5_addWord_X5_isWord rfl rfl rfl hds_X5_isWord ⟨Nat.le_of_ble_eq_true rfl, Nat.le_of_ble_eq_true rfl⟩) rfl rfl hl.1 rfl (lv_room (Nat.le_of_ble_eq_true rfl)) dX5_addWord_6 ⟨Nat.le_of_ble_eq_true rfl, Nat.le_of_ble_eq_true rfl⟩) hS (fun H locs hP hD hS => ?_)
  have hP : va_P D vwCl (zWM cI cJ cZ h 0 (n, L) ((zcb kt pt), (zcb km pm), (zcb kl pl)) mc (run, wc, nu, lc, le, af, tr, ms, cl, tm) (co, yn, yh, pa) ++ R) _ := hP
  have hD : va_D (zAb B) (zWM cI cJ cZ h 0 (n, L) ((zcb kt pt), (zcb km pm), (zcb kl pl)) mc (run, wc, nu, lc, le, af, tr, ms, cl, tm) (co, yn, yh, pa) ++ R) := hD
  refine lv_if_ne (tgt := 18) hx hb dX5_addWord_9 (by decide) (fun c_1 => ?_) (fun c_1 => ?_)
  · skip
    have c_1 : (zok w) = true := zb_n c_1
    refine lv_aload_n hx hb dX5_addWord_18 rfl (lv_at hl 0 rfl) ?_
    refine va_get (ci := 5) (v := .int (nI n)) (C := RX5) (T := TX5) (N := 20) hx hb hts hinX5 hown hK hP 0 rfl rfl 1 (by decide) (hts (.fieldLink RX5 46 "TypingTutorModel" "words" "I") (List.mem_of_getElem? (i := 2) rfl)) (fun _ h9 => h9) rfl dX5_addWord_19 ?_
    refine lv_bipush (v := 40) hx hb dX5_addWord_22 (by decide) ?_
    refine lv_icmp_ne (tgt := 33) hx hb dX5_addWord_24 (by decide) (fun c_2 => ?_) (fun c_2 => ?_)
    · skip
      have c_2 : ¬ n = 40 := fun hh => c_2 ((nI_eq (a := n) (b := 40) (by omega) (by omega)).mpr hh)
      refine lv_iconst (v := 0) hx hb dX5_addWord_33 (by decide) ?_
      refine lv_istore_n (lv' := [(3, .int 0), (0, .ref (h 0)), (1, .long w)]) hx hb dX5_addWord_34 rfl hl (by decide) rfl (fun ls hl => ?_)
      refine zloop (σ := (Nat)) (nL := 4) (fun x9 => (zWM cI cJ cZ h 0 (n, L) ((zcb kt pt), (zcb km pm), (zcb kl pl)) mc (run, wc, nu, lc, le, af, tr, ms, cl, tm) (co, yn, yh, pa) ++ R)) (fun x9 => [(3, .int (nI x9)), (0, .ref (h 0)), (1, .long w)]) (fun x9 => []) (fun x9 => x9 ≤ n ∧ zhd L w x9 = false) (fun x9 => n - x9) ?_ (0) (⟨by omega, rfl⟩) _ _ _ hP hD hS (lv_sub hl [0, 1, 2] rfl)
      rintro j hI ih H locs ls hP hD hS hl
      try dsimp only at hI ih hP hD hS hl ⊢
      refine lv_iload_n hx hb dX5_addWord_35 rfl (lv_at hl 0 rfl) ?_
      refine lv_aload_n hx hb dX5_addWord_36 rfl (lv_at hl 1 rfl) ?_
      refine va_get (ci := 5) (v := .int (nI n)) (C := RX5) (T := TX5) (N := 20) hx hb hts hinX5 hown hK hP 0 rfl rfl 1 (by decide) (hts (.fieldLink RX5 46 "TypingTutorModel" "words" "I") (List.mem_of_getElem? (i := 2) rfl)) (fun _ h9 => h9) rfl dX5_addWord_37 ?_
      refine lv_icmp_ge (tgt := 66) hx hb dX5_addWord_40 (by decide) (fun c_3 => ?_) (fun c_3 => ?_)
      · skip
        have c_3 : n ≤ j := (nI_leI (a := n) (b := j) (by omega) (by omega)).mp c_3
        exact hf.elim (fun q => absurd (by omega) q) (fun q => by rw [show n = j from by omega, hI.2] at q; cases q)
      · skip
        have c_3 : ¬ n ≤ j := fun hh => c_3 ((nI_leI (a := n) (b := j) (by omega) (by omega)).mpr hh)
        refine lv_aload_n hx hb dX5_addWord_43 rfl (lv_at hl 1 rfl) ?_
        refine va_get (ci := 5) (v := .ref (h 1)) (C := RX5) (T := TX5) (N := 20) hx hb hts hinX5 hown hK hP 0 rfl rfl 2 (by decide) (hts (.fieldLink RX5 9 "TypingTutorModel" "list" "[J") (List.mem_of_getElem? (i := 3) rfl)) (fun _ h9 => h9) rfl dX5_addWord_44 ?_
        refine lv_iload_n hx hb dX5_addWord_47 rfl (lv_at hl 0 rfl) ?_
        refine va_lald hx hb hK hP 1 1 rfl rfl (vp_in_nI (n := j) (N := 40) (by omega) (by omega)) dX5_addWord_48 ?_
        rw [pk_cl (x := (nI j)) j (rfl) (by omega)]
        refine lv_lload_n hx hb dX5_addWord_49 rfl (lv_at hl 2 rfl) ?_
        refine W.lcmp hx hb dX5_addWord_50 ?_
        refine lv_if_ne (tgt := 60) hx hb dX5_addWord_51 (by decide) (fun c_4 => ?_) (fun c_4 => ?_)
        · skip
          have c_4 : ¬ (L j) = w := fun hh => c_4 ((lg_cmp_eq _ _).mpr hh)
          refine lv_iinc (v := (nI (j + 1))) (lv' := [(3, .int (nI (j + 1))), (0, .ref (h 0)), (1, .long w)]) hx hb dX5_addWord_60 hl (k := 0) rfl (nI_add j 1) (by decide) rfl (fun ls hl => ?_)
          refine lv_goto (tgt := 35) hx hb dX5_addWord_63 (by decide) ?_
          exact ih (j + 1) (⟨by omega, zhd_not hI.2 c_4⟩) (by omega) _ _ _ hP hD hS (lv_sub hl [0, 1, 2] rfl)
        · skip
          have c_4 : (L j) = w := (lg_cmp_eq _ _).mp c_4
          refine lv_aload_n hx hb dX5_addWord_54 rfl (lv_at hl 1 rfl) ?_
          refine lv_iconst (v := 2) hx hb dX5_addWord_55 (by decide) ?_
          refine zci (zrV (As := [.int 2]) (rest := []) ⟨hx, hb, hml, hown, hts⟩ (zV 0 hP hD hK hE hB hS rfl rfl) (c_X5_fail  ) (cwV 1 hts gX5_addWord_X5_fail rfl rfl rfl hdv_X5_fail ⟨Nat.le_of_ble_eq_true rfl, Nat.le_of_ble_eq_true rfl⟩) rfl rfl hl.1 rfl (lv_room (Nat.le_of_ble_eq_true rfl)) dX5_addWord_56 ⟨Nat.le_of_ble_eq_true rfl, Nat.le_of_ble_eq_true rfl⟩) hS (fun H locs hP hD hS => ?_)
          have hP : va_P D vwCl (zWM cI cJ cZ h 2 (n, L) ((zcb kt pt), (zcb km pm), (zcb kl pl)) mc (run, wc, nu, lc, le, af, tr, ms, cl, tm) (co, yn, yh, pa) ++ R) _ := hP
          have hD : va_D (zAb B) (zWM cI cJ cZ h 2 (n, L) ((zcb kt pt), (zcb km pm), (zcb kl pl)) mc (run, wc, nu, lc, le, af, tr, ms, cl, tm) (co, yn, yh, pa) ++ R) := hD
          exact W.iret (v := 0) hx hb hr (fun t ht hW => ⟨⟨_, (), rfl, rfl, by rw [ht]; exact hP, hD⟩, hS.F ht⟩) hS.2.2 dX5_addWord_59
    · skip
      have c_2 : n = 40 := (nI_eq (a := n) (b := 40) (by omega) (by omega)).mp c_2
      refine lv_aload_n hx hb dX5_addWord_27 rfl (lv_at hl 0 rfl) ?_
      refine lv_iconst (v := 2) hx hb dX5_addWord_28 (by decide) ?_
      refine zci (zrV (As := [.int 2]) (rest := []) ⟨hx, hb, hml, hown, hts⟩ (zV 0 hP hD hK hE hB hS rfl rfl) (c_X5_fail  ) (cwV 1 hts gX5_addWord_X5_fail rfl rfl rfl hdv_X5_fail ⟨Nat.le_of_ble_eq_true rfl, Nat.le_of_ble_eq_true rfl⟩) rfl rfl hl.1 rfl (lv_room (Nat.le_of_ble_eq_true rfl)) dX5_addWord_29 ⟨Nat.le_of_ble_eq_true rfl, Nat.le_of_ble_eq_true rfl⟩) hS (fun H locs hP hD hS => ?_)
      have hP : va_P D vwCl (zWM cI cJ cZ h 2 (n, L) ((zcb kt pt), (zcb km pm), (zcb kl pl)) mc (run, wc, nu, lc, le, af, tr, ms, cl, tm) (co, yn, yh, pa) ++ R) _ := hP
      have hD : va_D (zAb B) (zWM cI cJ cZ h 2 (n, L) ((zcb kt pt), (zcb km pm), (zcb kl pl)) mc (run, wc, nu, lc, le, af, tr, ms, cl, tm) (co, yn, yh, pa) ++ R) := hD
      exact W.iret (v := 0) hx hb hr (fun t ht hW => ⟨⟨_, (), rfl, rfl, by rw [ht]; exact hP, hD⟩, hS.F ht⟩) hS.2.2 dX5_addWord_32
  · skip
    have c_1 : (zok w) = false := zb_0 c_1
    exact absurd (c_1.symm.trans hz) (by decide)

set_option maxHeartbeats 1000000 in
set_option maxRecDepth 100000 in
theorem c_X5_wordCount {l : Launch} {B kr kp : Nat} {D : va_G} {cI cJ cZ : ClassId} {h : Nat → Nat} {R : va_W} {th : Int32} {n : Nat} {L : Nat → Int64} {kt : Nat → Int32} {km : Nat → Int32} {kl : Nat → Int32} {pt : Nat → Int32} {pm : Nat → Int32} {pl : Nat → Int32} {nu : Nat → Int32} {le : Nat → Int32} {af : Nat → Int32} {run : Bool} {wc : Nat} {lc : Nat} {tr : Nat} {cl : Nat} {tm : Nat} {ms : Nat} {co : Nat} {yn : Nat} {yh : Nat → Int32} {pa : Int32} {mc : Nat → Int32}     : Met l yX5_wordCount wsX5_wordCount ({ frames := 0, cells := 0, slots := 0, locals := 0 }) (zPc B kr kp D (zTy cI cJ cZ) (zWM cI cJ cZ h th (n, L) ((zcb kt pt), (zcb km pm), (zcb kl pl)) mc (run, wc, nu, lc, le, af, tr, ms, cl, tm) (co, yn, yh, pa) ++ R) [.ref (h 0)]) (zQi B D (zWM cI cJ cZ h 0 (n, L) ((zcb kt pt), (zcb km pm), (zcb kl pl)) mc (run, wc, nu, lc, le, af, tr, ms, cl, tm) (co, yn, yh, pa) ++ R) (nI n)) 0 0 (zAb B) := by
  refine Met.ofW (cc := cX5_wordCount) (maxL := 1) (ret := (some .int)) (by decide) rfl ?_
  intro p e s m args below meth c s₁ B0 hml hv
  obtain ⟨rfl, hP, hD, hK, hE, hB⟩ := hv
  have hx := B0.exec
  have hb := B0.bytes
  have hr := B0.returns
  have hts := atoms_spec (ws := wsX5_wordCount) B0.pre
  have hown : s.vm.findClass RX5 = some m.cls := findClass_of_methodNamed B0.named
  have hlocks := B0.notSynchronized
  have hA : ∀ q : Nat, s.heap.size ≤ q → zAb B q := fun q hq => Nat.le_trans hB hq
  have hS : va_S (zAb B) s.heap s.heap [] := va_S.rf
  have hl := lv_entry ([.ref (h 0)]) (n := 1) (Nat.le_of_ble_eq_true rfl)
  rw [lg_entry_eq]
  generalize (lg_sl ([.ref (h 0)]) ++ List.replicate (1 - (lg_sl ([.ref (h 0)])).length) Slot.unset).toArray = ls at hl ⊢
  have hl : lv_has ls 1 [(0, .ref (h 0))] := hl
  have hinX5 : ∀ w ∈ wsX50, w ∈ wsX5_wordCount := fun _ h => List.mem_cons_of_mem _ (List.mem_append_right _ h)
  have hP : va_P D vwCl (zWM cI cJ cZ h th (n, L) ((zcb kt pt), (zcb km pm), (zcb kl pl)) mc (run, wc, nu, lc, le, af, tr, ms, cl, tm) (co, yn, yh, pa) ++ R) s.heap := hP
  have hD : va_D (zAb B) (zWM cI cJ cZ h th (n, L) ((zcb kt pt), (zcb km pm), (zcb kl pl)) mc (run, wc, nu, lc, le, af, tr, ms, cl, tm) (co, yn, yh, pa) ++ R) := hD
  refine lv_aload_n hx hb dX5_wordCount_0 rfl (lv_at hl 0 rfl) ?_
  refine lv_iconst (v := 0) hx hb dX5_wordCount_1 (by decide) ?_
  refine va_put (ci := 5) (v := .int 0) (ty := .int) (C := RX5) (T := TX5) (N := 20) hx hb hts hinX5 tyX5 tyX5_ok nmX5 hown hK hP hD hS 0 rfl rfl 0 (by decide) (hts (.fieldLink RX5 43 "TypingTutorModel" "thrown" "I") (List.mem_of_getElem? (i := 1) rfl)) (fun _ h9 => h9) rfl (by decide +kernel) rfl rfl (Nat.le_of_ble_eq_true rfl) dX5_wordCount_2 (fun H locs hP hD hS => ?_)
  have hP : va_P D vwCl (zWM cI cJ cZ h 0 (n, L) ((zcb kt pt), (zcb km pm), (zcb kl pl)) mc (run, wc, nu, lc, le, af, tr, ms, cl, tm) (co, yn, yh, pa) ++ R) _ := hP
  have hD : va_D (zAb B) (zWM cI cJ cZ h 0 (n, L) ((zcb kt pt), (zcb km pm), (zcb kl pl)) mc (run, wc, nu, lc, le, af, tr, ms, cl, tm) (co, yn, yh, pa) ++ R) := hD
  refine lv_aload_n hx hb dX5_wordCount_5 rfl (lv_at hl 0 rfl) ?_
  refine va_get (ci := 5) (v := .int (nI n)) (C := RX5) (T := TX5) (N := 20) hx hb hts hinX5 hown hK hP 0 rfl rfl 1 (by decide) (hts (.fieldLink RX5 46 "TypingTutorModel" "words" "I") (List.mem_of_getElem? (i := 2) rfl)) (fun _ h9 => h9) rfl dX5_wordCount_6 ?_
  exact W.iret (v := (nI n)) hx hb hr (fun t ht hW => ⟨⟨_, (), rfl, rfl, by rw [ht]; exact hP, hD⟩, hS.F ht⟩) hS.2.2 dX5_wordCount_9

set_option maxHeartbeats 1000000 in
set_option maxRecDepth 100000 in
theorem c_X5_word {l : Launch} {B kr kp : Nat} {D : va_G} {cI cJ cZ : ClassId} {h : Nat → Nat} {R : va_W} {th : Int32} {n : Nat} {L : Nat → Int64} {kt : Nat → Int32} {km : Nat → Int32} {kl : Nat → Int32} {pt : Nat → Int32} {pm : Nat → Int32} {pl : Nat → Int32} {nu : Nat → Int32} {le : Nat → Int32} {af : Nat → Int32} {run : Bool} {wc : Nat} {lc : Nat} {tr : Nat} {cl : Nat} {tm : Nat} {ms : Nat} {co : Nat} {yn : Nat} {yh : Nat → Int32} {pa : Int32} {mc : Nat → Int32} {k : Nat}   (hk : k < n) (hn : n ≤ 40) : Met l yX5_word wsX5_word ({ frames := 1, cells := 0, slots := 0, locals := 21 }) (zPc B kr kp D (zTy cI cJ cZ) (zWM cI cJ cZ h th (n, L) ((zcb kt pt), (zcb km pm), (zcb kl pl)) mc (run, wc, nu, lc, le, af, tr, ms, cl, tm) (co, yn, yh, pa) ++ R) [.ref (h 0), .int (nI k)]) (zQl B D (zWM cI cJ cZ h 0 (n, L) ((zcb kt pt), (zcb km pm), (zcb kl pl)) mc (run, wc, nu, lc, le, af, tr, ms, cl, tm) (co, yn, yh, pa) ++ R) (L k)) 0 0 (zAb B) := by
  refine Met.ofW (cc := cX5_word) (maxL := 2) (ret := (some .long)) (by decide) rfl ?_
  intro p e s m args below meth c s₁ B0 hml hv
  obtain ⟨rfl, hP, hD, hK, hE, hB⟩ := hv
  have hx := B0.exec
  have hb := B0.bytes
  have hr := B0.returns
  have hts := atoms_spec (ws := wsX5_word) B0.pre
  have hown : s.vm.findClass RX5 = some m.cls := findClass_of_methodNamed B0.named
  have hlocks := B0.notSynchronized
  have hA : ∀ q : Nat, s.heap.size ≤ q → zAb B q := fun q hq => Nat.le_trans hB hq
  have hS : va_S (zAb B) s.heap s.heap [] := va_S.rf
  have hl := lv_entry ([.ref (h 0), .int (nI k)]) (n := 2) (Nat.le_of_ble_eq_true rfl)
  rw [lg_entry_eq]
  generalize (lg_sl ([.ref (h 0), .int (nI k)]) ++ List.replicate (2 - (lg_sl ([.ref (h 0), .int (nI k)])).length) Slot.unset).toArray = ls at hl ⊢
  have hl : lv_has ls 2 [(0, .ref (h 0)), (1, .int (nI k))] := hl
  have hinX5 : ∀ w ∈ wsX50, w ∈ wsX5_word := fun _ h => List.mem_cons_of_mem _ (List.mem_append_right _ h)
  have hP : va_P D vwCl (zWM cI cJ cZ h th (n, L) ((zcb kt pt), (zcb km pm), (zcb kl pl)) mc (run, wc, nu, lc, le, af, tr, ms, cl, tm) (co, yn, yh, pa) ++ R) s.heap := hP
  have hD : va_D (zAb B) (zWM cI cJ cZ h th (n, L) ((zcb kt pt), (zcb km pm), (zcb kl pl)) mc (run, wc, nu, lc, le, af, tr, ms, cl, tm) (co, yn, yh, pa) ++ R) := hD
  refine lv_aload_n hx hb dX5_word_0 rfl (lv_at hl 0 rfl) ?_
  refine lv_aload_n hx hb dX5_word_1 rfl (lv_at hl 0 rfl) ?_
  refine lv_iload_n hx hb dX5_word_2 rfl (lv_at hl 1 rfl) ?_
  refine zci (zrV (As := [.int (nI k)]) (rest := [.ref (h 0)]) ⟨hx, hb, hml, hown, hts⟩ (zV 0 hP hD hK hE hB hS rfl rfl) (c_X5_isNumber  ) (cwV 1 hts gX5_word_X5_isNumber rfl rfl rfl hdv_X5_isNumber ⟨Nat.le_of_ble_eq_true rfl, Nat.le_of_ble_eq_true rfl⟩) rfl rfl hl.1 rfl (lv_room (Nat.le_of_ble_eq_true rfl)) dX5_word_3 ⟨Nat.le_of_ble_eq_true rfl, Nat.le_of_ble_eq_true rfl⟩) hS (fun H locs hP hD hS => ?_)
  have hP : va_P D vwCl (zWM cI cJ cZ h th (n, L) ((zcb kt pt), (zcb km pm), (zcb kl pl)) mc (run, wc, nu, lc, le, af, tr, ms, cl, tm) (co, yn, yh, pa) ++ R) _ := hP
  have hD : va_D (zAb B) (zWM cI cJ cZ h th (n, L) ((zcb kt pt), (zcb km pm), (zcb kl pl)) mc (run, wc, nu, lc, le, af, tr, ms, cl, tm) (co, yn, yh, pa) ++ R) := hD
  refine lv_if_eq (tgt := 13) hx hb dX5_word_6 (by decide) (fun c_1 => ?_) (fun c_1 => ?_)
  · skip
    have c_1 := zq_0 c_1
    exact absurd ⟨nI_pos (by omega), nI_ge hk (by omega)⟩ c_1
  · skip
    have c_1 := zq_n c_1
    refine lv_iconst (v := 0) hx hb dX5_word_9 (by decide) ?_
    refine lv_goto (tgt := 14) hx hb dX5_word_10 (by decide) ?_
    refine va_put (ci := 5) (v := .int 0) (ty := .int) (C := RX5) (T := TX5) (N := 20) hx hb hts hinX5 tyX5 tyX5_ok nmX5 hown hK hP hD hS 0 rfl rfl 0 (by decide) (hts (.fieldLink RX5 43 "TypingTutorModel" "thrown" "I") (List.mem_of_getElem? (i := 1) rfl)) (fun _ h9 => h9) rfl (by decide +kernel) rfl rfl (Nat.le_of_ble_eq_true rfl) dX5_word_14 (fun H locs hP hD hS => ?_)
    have hP : va_P D vwCl (zWM cI cJ cZ h 0 (n, L) ((zcb kt pt), (zcb km pm), (zcb kl pl)) mc (run, wc, nu, lc, le, af, tr, ms, cl, tm) (co, yn, yh, pa) ++ R) _ := hP
    have hD : va_D (zAb B) (zWM cI cJ cZ h 0 (n, L) ((zcb kt pt), (zcb km pm), (zcb kl pl)) mc (run, wc, nu, lc, le, af, tr, ms, cl, tm) (co, yn, yh, pa) ++ R) := hD
    refine lv_aload_n hx hb dX5_word_17 rfl (lv_at hl 0 rfl) ?_
    refine va_get (ci := 5) (v := .int 0) (C := RX5) (T := TX5) (N := 20) hx hb hts hinX5 hown hK hP 0 rfl rfl 0 (by decide) (hts (.fieldLink RX5 43 "TypingTutorModel" "thrown" "I") (List.mem_of_getElem? (i := 1) rfl)) (fun _ h9 => h9) rfl dX5_word_18 ?_
    refine lv_if_ne (tgt := 33) hx hb dX5_word_21 (by decide) (fun c_2 => ?_) (fun c_2 => ?_)
    · skip
      exfalso; first | omega | (revert c_2; decide) | (exact absurd rfl c_2) | simp_all
    · skip
      refine lv_aload_n hx hb dX5_word_24 rfl (lv_at hl 0 rfl) ?_
      refine va_get (ci := 5) (v := .ref (h 1)) (C := RX5) (T := TX5) (N := 20) hx hb hts hinX5 hown hK hP 0 rfl rfl 2 (by decide) (hts (.fieldLink RX5 9 "TypingTutorModel" "list" "[J") (List.mem_of_getElem? (i := 2) rfl)) (fun _ h9 => h9) rfl dX5_word_25 ?_
      refine lv_iload_n hx hb dX5_word_28 rfl (lv_at hl 1 rfl) ?_
      refine va_lald hx hb hK hP 1 1 rfl rfl (vp_in_nI (n := k) (N := 40) (by omega) (by omega)) dX5_word_29 ?_
      rw [pk_cl (x := (nI k)) k (rfl) (by omega)]
      refine lv_goto (tgt := 34) hx hb dX5_word_30 (by decide) ?_
      exact W.lret (v := (L k)) hx hb hr (fun t ht hW => ⟨⟨_, (), rfl, rfl, by rw [ht]; exact hP, hD⟩, hS.F ht⟩) hS.2.2 dX5_word_34

set_option maxHeartbeats 1000000 in
set_option maxRecDepth 100000 in
theorem c_X5_word_x {l : Launch} {B kr kp : Nat} {D : va_G} {cI cJ cZ : ClassId} {h : Nat → Nat} {R : va_W} {th : Int32} {n : Nat} {L : Nat → Int64} {kt : Nat → Int32} {km : Nat → Int32} {kl : Nat → Int32} {pt : Nat → Int32} {pm : Nat → Int32} {pl : Nat → Int32} {nu : Nat → Int32} {le : Nat → Int32} {af : Nat → Int32} {run : Bool} {wc : Nat} {lc : Nat} {tr : Nat} {cl : Nat} {tm : Nat} {ms : Nat} {co : Nat} {yn : Nat} {yh : Nat → Int32} {pa : Int32} {mc : Nat → Int32} {i : Int32}   (hi : i < 0 ∨ nI n ≤ i) (hn : n ≤ 40) : Met l yX5_word wsX5_word ({ frames := 1, cells := 0, slots := 0, locals := 21 }) (zPc B kr kp D (zTy cI cJ cZ) (zWM cI cJ cZ h th (n, L) ((zcb kt pt), (zcb km pm), (zcb kl pl)) mc (run, wc, nu, lc, le, af, tr, ms, cl, tm) (co, yn, yh, pa) ++ R) [.ref (h 0), .int i]) (zQl B D (zWM cI cJ cZ h 1 (n, L) ((zcb kt pt), (zcb km pm), (zcb kl pl)) mc (run, wc, nu, lc, le, af, tr, ms, cl, tm) (co, yn, yh, pa) ++ R) 0) 0 0 (zAb B) := by
  refine Met.ofW (cc := cX5_word) (maxL := 2) (ret := (some .long)) (by decide) rfl ?_
  intro p e s m args below meth c s₁ B0 hml hv
  obtain ⟨rfl, hP, hD, hK, hE, hB⟩ := hv
  have hx := B0.exec
  have hb := B0.bytes
  have hr := B0.returns
  have hts := atoms_spec (ws := wsX5_word) B0.pre
  have hown : s.vm.findClass RX5 = some m.cls := findClass_of_methodNamed B0.named
  have hlocks := B0.notSynchronized
  have hA : ∀ q : Nat, s.heap.size ≤ q → zAb B q := fun q hq => Nat.le_trans hB hq
  have hS : va_S (zAb B) s.heap s.heap [] := va_S.rf
  have hl := lv_entry ([.ref (h 0), .int i]) (n := 2) (Nat.le_of_ble_eq_true rfl)
  rw [lg_entry_eq]
  generalize (lg_sl ([.ref (h 0), .int i]) ++ List.replicate (2 - (lg_sl ([.ref (h 0), .int i])).length) Slot.unset).toArray = ls at hl ⊢
  have hl : lv_has ls 2 [(0, .ref (h 0)), (1, .int i)] := hl
  have hinX5 : ∀ w ∈ wsX50, w ∈ wsX5_word := fun _ h => List.mem_cons_of_mem _ (List.mem_append_right _ h)
  have hP : va_P D vwCl (zWM cI cJ cZ h th (n, L) ((zcb kt pt), (zcb km pm), (zcb kl pl)) mc (run, wc, nu, lc, le, af, tr, ms, cl, tm) (co, yn, yh, pa) ++ R) s.heap := hP
  have hD : va_D (zAb B) (zWM cI cJ cZ h th (n, L) ((zcb kt pt), (zcb km pm), (zcb kl pl)) mc (run, wc, nu, lc, le, af, tr, ms, cl, tm) (co, yn, yh, pa) ++ R) := hD
  refine lv_aload_n hx hb dX5_word_0 rfl (lv_at hl 0 rfl) ?_
  refine lv_aload_n hx hb dX5_word_1 rfl (lv_at hl 0 rfl) ?_
  refine lv_iload_n hx hb dX5_word_2 rfl (lv_at hl 1 rfl) ?_
  refine zci (zrV (As := [.int i]) (rest := [.ref (h 0)]) ⟨hx, hb, hml, hown, hts⟩ (zV 0 hP hD hK hE hB hS rfl rfl) (c_X5_isNumber  ) (cwV 1 hts gX5_word_X5_isNumber rfl rfl rfl hdv_X5_isNumber ⟨Nat.le_of_ble_eq_true rfl, Nat.le_of_ble_eq_true rfl⟩) rfl rfl hl.1 rfl (lv_room (Nat.le_of_ble_eq_true rfl)) dX5_word_3 ⟨Nat.le_of_ble_eq_true rfl, Nat.le_of_ble_eq_true rfl⟩) hS (fun H locs hP hD hS => ?_)
  have hP : va_P D vwCl (zWM cI cJ cZ h th (n, L) ((zcb kt pt), (zcb km pm), (zcb kl pl)) mc (run, wc, nu, lc, le, af, tr, ms, cl, tm) (co, yn, yh, pa) ++ R) _ := hP
  have hD : va_D (zAb B) (zWM cI cJ cZ h th (n, L) ((zcb kt pt), (zcb km pm), (zcb kl pl)) mc (run, wc, nu, lc, le, af, tr, ms, cl, tm) (co, yn, yh, pa) ++ R) := hD
  refine lv_if_eq (tgt := 13) hx hb dX5_word_6 (by decide) (fun c_1 => ?_) (fun c_1 => ?_)
  · skip
    have c_1 := zq_0 c_1
    refine lv_iconst (v := 1) hx hb dX5_word_13 (by decide) ?_
    refine va_put (ci := 5) (v := .int 1) (ty := .int) (C := RX5) (T := TX5) (N := 20) hx hb hts hinX5 tyX5 tyX5_ok nmX5 hown hK hP hD hS 0 rfl rfl 0 (by decide) (hts (.fieldLink RX5 43 "TypingTutorModel" "thrown" "I") (List.mem_of_getElem? (i := 1) rfl)) (fun _ h9 => h9) rfl (by decide +kernel) rfl rfl (Nat.le_of_ble_eq_true rfl) dX5_word_14 (fun H locs hP hD hS => ?_)
    have hP : va_P D vwCl (zWM cI cJ cZ h 1 (n, L) ((zcb kt pt), (zcb km pm), (zcb kl pl)) mc (run, wc, nu, lc, le, af, tr, ms, cl, tm) (co, yn, yh, pa) ++ R) _ := hP
    have hD : va_D (zAb B) (zWM cI cJ cZ h 1 (n, L) ((zcb kt pt), (zcb km pm), (zcb kl pl)) mc (run, wc, nu, lc, le, af, tr, ms, cl, tm) (co, yn, yh, pa) ++ R) := hD
    refine lv_aload_n hx hb dX5_word_17 rfl (lv_at hl 0 rfl) ?_
    refine va_get (ci := 5) (v := .int 1) (C := RX5) (T := TX5) (N := 20) hx hb hts hinX5 hown hK hP 0 rfl rfl 0 (by decide) (hts (.fieldLink RX5 43 "TypingTutorModel" "thrown" "I") (List.mem_of_getElem? (i := 1) rfl)) (fun _ h9 => h9) rfl dX5_word_18 ?_
    refine lv_if_ne (tgt := 33) hx hb dX5_word_21 (by decide) (fun c_2 => ?_) (fun c_2 => ?_)
    · skip
      refine lv_lconst (v := 0) hx hb dX5_word_33 (by decide) ?_
      exact W.lret (v := 0) hx hb hr (fun t ht hW => ⟨⟨_, (), rfl, rfl, by rw [ht]; exact hP, hD⟩, hS.F ht⟩) hS.2.2 dX5_word_34
    · skip
      exfalso; first | omega | (revert c_2; decide) | (exact absurd rfl c_2) | simp_all
  · skip
    have c_1 := zq_n c_1
    exact hi.elim (fun q => absurd q c_1.1) (fun q => absurd q c_1.2)

set_option maxHeartbeats 1000000 in
set_option maxRecDepth 100000 in
theorem c_X5_weakness {l : Launch} {B kr kp : Nat} {D : va_G} {cI cJ cZ : ClassId} {h : Nat → Nat} {R : va_W} {th : Int32} {n : Nat} {L : Nat → Int64} {kt : Nat → Int32} {km : Nat → Int32} {kl : Nat → Int32} {pt : Nat → Int32} {pm : Nat → Int32} {pl : Nat → Int32} {nu : Nat → Int32} {le : Nat → Int32} {af : Nat → Int32} {run : Bool} {wc : Nat} {lc : Nat} {tr : Nat} {cl : Nat} {tm : Nat} {ms : Nat} {co : Nat} {yn : Nat} {yh : Nat → Int32} {pa : Int32} {mc : Nat → Int32} {a : Nat} {b : Nat}   (ha : a < 26) (hb9 : b < 26) : Met l yX5_weakness wsX5_weakness ({ frames := 1, cells := 0, slots := 0, locals := 21 }) (zPc B kr kp D (zTy cI cJ cZ) (zWM cI cJ cZ h th (n, L) ((zcb kt pt), (zcb km pm), (zcb kl pl)) mc (run, wc, nu, lc, le, af, tr, ms, cl, tm) (co, yn, yh, pa) ++ R) [.ref (h 0), .int (nI a), .int (nI b)]) (zQi B D (zWM cI cJ cZ h th (n, L) ((zcb kt pt), (zcb km pm), (zcb kl pl)) mc (run, wc, nu, lc, le, af, tr, ms, cl, tm) (co, yn, yh, pa) ++ R) (zwk pt pl (nI (26 * a + b)))) 0 0 (zAb B) := by
  refine Met.ofW (cc := cX5_weakness) (maxL := 4) (ret := (some .int)) (by decide) rfl ?_
  intro p e s m args below meth c s₁ B0 hml hv
  obtain ⟨rfl, hP, hD, hK, hE, hB⟩ := hv
  have hx := B0.exec
  have hb := B0.bytes
  have hr := B0.returns
  have hts := atoms_spec (ws := wsX5_weakness) B0.pre
  have hown : s.vm.findClass RX5 = some m.cls := findClass_of_methodNamed B0.named
  have hlocks := B0.notSynchronized
  have hA : ∀ q : Nat, s.heap.size ≤ q → zAb B q := fun q hq => Nat.le_trans hB hq
  have hS : va_S (zAb B) s.heap s.heap [] := va_S.rf
  have hl := lv_entry ([.ref (h 0), .int (nI a), .int (nI b)]) (n := 4) (Nat.le_of_ble_eq_true rfl)
  rw [lg_entry_eq]
  generalize (lg_sl ([.ref (h 0), .int (nI a), .int (nI b)]) ++ List.replicate (4 - (lg_sl ([.ref (h 0), .int (nI a), .int (nI b)])).length) Slot.unset).toArray = ls at hl ⊢
  have hl : lv_has ls 4 [(0, .ref (h 0)), (1, .int (nI a)), (2, .int (nI b))] := hl
  have hinX5 : ∀ w ∈ wsX50, w ∈ wsX5_weakness := fun _ h => List.mem_cons_of_mem _ (List.mem_append_right _ h)
  have hP : va_P D vwCl (zWM cI cJ cZ h th (n, L) ((zcb kt pt), (zcb km pm), (zcb kl pl)) mc (run, wc, nu, lc, le, af, tr, ms, cl, tm) (co, yn, yh, pa) ++ R) s.heap := hP
  have hD : va_D (zAb B) (zWM cI cJ cZ h th (n, L) ((zcb kt pt), (zcb km pm), (zcb kl pl)) mc (run, wc, nu, lc, le, af, tr, ms, cl, tm) (co, yn, yh, pa) ++ R) := hD
  refine lv_iload_n hx hb dX5_weakness_0 rfl (lv_at hl 1 rfl) ?_
  refine lv_iload_n hx hb dX5_weakness_1 rfl (lv_at hl 2 rfl) ?_
  refine zci (zrS (As := [.int (nI a), .int (nI b)]) (rest := []) ⟨hx, hb, hml, hown, hts⟩ (zS hP hD hK hE hB hS) (c_X5_pairOf (a := a) (b := b) ) (va_cwS 2 hts gX5_weakness_X5_pairOf rfl rfl rfl hds_X5_pairOf ⟨Nat.le_of_ble_eq_true rfl, Nat.le_of_ble_eq_true rfl⟩) rfl rfl hl.1 rfl (lv_room (Nat.le_of_ble_eq_true rfl)) dX5_weakness_2 ⟨Nat.le_of_ble_eq_true rfl, Nat.le_of_ble_eq_true rfl⟩) hS (fun H locs hP hD hS => ?_)
  have hP : va_P D vwCl (zWM cI cJ cZ h th (n, L) ((zcb kt pt), (zcb km pm), (zcb kl pl)) mc (run, wc, nu, lc, le, af, tr, ms, cl, tm) (co, yn, yh, pa) ++ R) _ := hP
  have hD : va_D (zAb B) (zWM cI cJ cZ h th (n, L) ((zcb kt pt), (zcb km pm), (zcb kl pl)) mc (run, wc, nu, lc, le, af, tr, ms, cl, tm) (co, yn, yh, pa) ++ R) := hD
  refine lv_istore_n (lv' := [(3, .int (nI (26 + (26 * a + b)))), (0, .ref (h 0)), (1, .int (nI a)), (2, .int (nI b))]) hx hb dX5_weakness_5 rfl hl (by decide) rfl (fun ls hl => ?_)
  refine lv_sipush (v := 1000) hx hb dX5_weakness_6 (by decide) ?_
  refine lv_aload_n hx hb dX5_weakness_9 rfl (lv_at hl 1 rfl) ?_
  refine va_get (ci := 5) (v := .ref (h 4)) (C := RX5) (T := TX5) (N := 20) hx hb hts hinX5 hown hK hP 0 rfl rfl 5 (by decide) (hts (.fieldLink RX5 20 "TypingTutorModel" "levels" "[I") (List.mem_of_getElem? (i := 1) rfl)) (fun _ h9 => h9) rfl dX5_weakness_10 ?_
  refine lv_iload_n hx hb dX5_weakness_13 rfl (lv_at hl 0 rfl) ?_
  refine va_iald hx hb hK hP 4 0 rfl rfl (vp_in_nI (n := (26 + (26 * a + b))) (N := 702) (by omega) (by omega)) dX5_weakness_14 ?_
  rw [pk_cl (x := (nI (26 + (26 * a + b)))) (26 + (26 * a + b)) (rfl) (by omega)]
  rw [show ((zcb kt pt), (zcb km pm), (zcb kl pl)).2.2 (26 + (26 * a + b)) = pl (26 * a + b) from zcb_p]
  refine lv_isub hx hb dX5_weakness_15 ?_
  refine lv_aload_n hx hb dX5_weakness_16 rfl (lv_at hl 1 rfl) ?_
  refine va_get (ci := 5) (v := .ref (h 2)) (C := RX5) (T := TX5) (N := 20) hx hb hts hinX5 hown hK hP 0 rfl rfl 3 (by decide) (hts (.fieldLink RX5 13 "TypingTutorModel" "tries" "[I") (List.mem_of_getElem? (i := 2) rfl)) (fun _ h9 => h9) rfl dX5_weakness_17 ?_
  refine lv_iload_n hx hb dX5_weakness_20 rfl (lv_at hl 0 rfl) ?_
  refine va_iald hx hb hK hP 2 0 rfl rfl (vp_in_nI (n := (26 + (26 * a + b))) (N := 702) (by omega) (by omega)) dX5_weakness_21 ?_
  rw [pk_cl (x := (nI (26 + (26 * a + b)))) (26 + (26 * a + b)) (rfl) (by omega)]
  rw [show ((zcb kt pt), (zcb km pm), (zcb kl pl)).1 (26 + (26 * a + b)) = pt (26 * a + b) from zcb_p]
  refine lv_if_ne (tgt := 31) hx hb dX5_weakness_22 (by decide) (fun c_1 => ?_) (fun c_1 => ?_)
  · skip
    refine lv_iconst (v := 0) hx hb dX5_weakness_31 (by decide) ?_
    refine lv_iadd hx hb dX5_weakness_32 ?_
    exact W.iret (v := ((1000 - (pl (26 * a + b))) + 0)) hx hb hr (fun t ht hW => ⟨⟨_, (), rfl, (Int32.add_zero _).trans ((zwk_in (by omega)).trans (if_neg c_1)).symm, by rw [ht]; exact hP, hD⟩, hS.F ht⟩) hS.2.2 dX5_weakness_33
  · skip
    refine lv_sipush (v := 200) hx hb dX5_weakness_25 (by decide) ?_
    refine lv_goto (tgt := 32) hx hb dX5_weakness_28 (by decide) ?_
    refine lv_iadd hx hb dX5_weakness_32 ?_
    exact W.iret (v := ((1000 - (pl (26 * a + b))) + 200)) hx hb hr (fun t ht hW => ⟨⟨_, (), rfl, ((zwk_in (by omega)).trans (if_pos c_1)).symm, by rw [ht]; exact hP, hD⟩, hS.F ht⟩) hS.2.2 dX5_weakness_33

set_option maxHeartbeats 1000000 in
set_option maxRecDepth 100000 in
theorem c_X5_weightOf {l : Launch} {B kr kp : Nat} {D : va_G} {cI cJ cZ : ClassId} {h : Nat → Nat} {R : va_W} {th : Int32} {n : Nat} {L : Nat → Int64} {kt : Nat → Int32} {km : Nat → Int32} {kl : Nat → Int32} {pt : Nat → Int32} {pm : Nat → Int32} {pl : Nat → Int32} {nu : Nat → Int32} {le : Nat → Int32} {af : Nat → Int32} {run : Bool} {wc : Nat} {lc : Nat} {tr : Nat} {cl : Nat} {tm : Nat} {ms : Nat} {co : Nat} {yn : Nat} {yh : Nat → Int32} {pa : Int32} {mc : Nat → Int32} {w : Int64}   (hz : zok w = true) : Met l yX5_weightOf wsX5_weightOf ({ frames := 2, cells := 0, slots := 0, locals := 44 }) (zPc B kr kp D (zTy cI cJ cZ) (zWM cI cJ cZ h th (n, L) ((zcb kt pt), (zcb km pm), (zcb kl pl)) mc (run, wc, nu, lc, le, af, tr, ms, cl, tm) (co, yn, yh, pa) ++ R) [.ref (h 0), .long w]) (zQi B D (zWM cI cJ cZ h th (n, L) ((zcb kt pt), (zcb km pm), (zcb kl pl)) mc (run, wc, nu, lc, le, af, tr, ms, cl, tm) (co, yn, yh, pa) ++ R) (zwg kl pt pl w)) 0 0 (zAb B) := by
  refine Met.ofW (cc := cX5_weightOf) (maxL := 6) (ret := (some .int)) (by decide) rfl ?_
  intro p e s m args below meth c s₁ B0 hml hv
  obtain ⟨rfl, hP, hD, hK, hE, hB⟩ := hv
  have hx := B0.exec
  have hb := B0.bytes
  have hr := B0.returns
  have hts := atoms_spec (ws := wsX5_weightOf) B0.pre
  have hown : s.vm.findClass RX5 = some m.cls := findClass_of_methodNamed B0.named
  have hlocks := B0.notSynchronized
  have hA : ∀ q : Nat, s.heap.size ≤ q → zAb B q := fun q hq => Nat.le_trans hB hq
  have hS : va_S (zAb B) s.heap s.heap [] := va_S.rf
  have hl := lv_entry ([.ref (h 0), .long w]) (n := 6) (Nat.le_of_ble_eq_true rfl)
  rw [lg_entry_eq]
  generalize (lg_sl ([.ref (h 0), .long w]) ++ List.replicate (6 - (lg_sl ([.ref (h 0), .long w])).length) Slot.unset).toArray = ls at hl ⊢
  have hl : lv_has ls 6 [(0, .ref (h 0)), (1, .long w)] := hl
  have hinX5 : ∀ w ∈ wsX50, w ∈ wsX5_weightOf := fun _ h => List.mem_cons_of_mem _ (List.mem_append_right _ h)
  have hP : va_P D vwCl (zWM cI cJ cZ h th (n, L) ((zcb kt pt), (zcb km pm), (zcb kl pl)) mc (run, wc, nu, lc, le, af, tr, ms, cl, tm) (co, yn, yh, pa) ++ R) s.heap := hP
  have hD : va_D (zAb B) (zWM cI cJ cZ h th (n, L) ((zcb kt pt), (zcb km pm), (zcb kl pl)) mc (run, wc, nu, lc, le, af, tr, ms, cl, tm) (co, yn, yh, pa) ++ R) := hD
  have h8 := zsz_le w
  have hp := zok_pos hz
  refine lv_lload_n hx hb dX5_weightOf_0 rfl (lv_at hl 1 rfl) ?_
  refine zci (zrS (As := [.long w]) (rest := []) ⟨hx, hb, hml, hown, hts⟩ (zS hP hD hK hE hB hS) (c_X5_size  ) (va_cwS 1 hts gX5_weightOf_X5_size rfl rfl rfl hds_X5_size ⟨Nat.le_of_ble_eq_true rfl, Nat.le_of_ble_eq_true rfl⟩) rfl rfl hl.1 rfl (lv_room (Nat.le_of_ble_eq_true rfl)) dX5_weightOf_1 ⟨Nat.le_of_ble_eq_true rfl, Nat.le_of_ble_eq_true rfl⟩) hS (fun H locs hP hD hS => ?_)
  have hP : va_P D vwCl (zWM cI cJ cZ h th (n, L) ((zcb kt pt), (zcb km pm), (zcb kl pl)) mc (run, wc, nu, lc, le, af, tr, ms, cl, tm) (co, yn, yh, pa) ++ R) _ := hP
  have hD : va_D (zAb B) (zWM cI cJ cZ h th (n, L) ((zcb kt pt), (zcb km pm), (zcb kl pl)) mc (run, wc, nu, lc, le, af, tr, ms, cl, tm) (co, yn, yh, pa) ++ R) := hD
  refine lv_istore_n (lv' := [(3, .int (nI (zsz w))), (0, .ref (h 0)), (1, .long w)]) hx hb dX5_weightOf_4 rfl hl (by decide) rfl (fun ls hl => ?_)
  refine lv_iload_n hx hb dX5_weightOf_5 rfl (lv_at hl 0 rfl) ?_
  refine lv_iconst (v := 1) hx hb dX5_weightOf_6 (by decide) ?_
  refine lv_icmp_ne (tgt := 25) hx hb dX5_weightOf_7 (by decide) (fun c_1 => ?_) (fun c_1 => ?_)
  · skip
    have c_1 : ¬ (zsz w) = 1 := fun hh => c_1 ((nI_eq (a := (zsz w)) (b := 1) (by omega) (by omega)).mpr hh)
    refine lv_iconst (v := 0) hx hb dX5_weightOf_25 (by decide) ?_
    refine lv_istore (lv' := [(4, .int 0), (3, .int (nI (zsz w))), (0, .ref (h 0)), (1, .long w)]) hx hb dX5_weightOf_26 hl (by decide) rfl (fun ls hl => ?_)
    refine lv_iconst (v := 1) hx hb dX5_weightOf_28 (by decide) ?_
    refine lv_istore (lv' := [(5, .int 1), (4, .int 0), (3, .int (nI (zsz w))), (0, .ref (h 0)), (1, .long w)]) hx hb dX5_weightOf_29 hl (by decide) rfl (fun ls hl => ?_)
    refine zloop (σ := (Nat) × (Int32)) (nL := 6) (fun x9 => (zWM cI cJ cZ h th (n, L) ((zcb kt pt), (zcb km pm), (zcb kl pl)) mc (run, wc, nu, lc, le, af, tr, ms, cl, tm) (co, yn, yh, pa) ++ R)) (fun x9 => [(5, .int (nI (x9.1 + 1))), (4, .int x9.2), (3, .int (nI (zsz w))), (0, .ref (h 0)), (1, .long w)]) (fun x9 => []) (fun x9 => (x9.1 + 1 ≤ zsz w) ∧ x9.2 = zsm pt pl w x9.1) (fun x9 => zsz w - x9.1) ?_ (0, 0) (⟨by omega, rfl⟩) _ _ _ hP hD hS (lv_sub hl [0, 1, 2, 3, 4] rfl)
    rintro ⟨j, z⟩ hI ih H locs ls hP hD hS hl
    try dsimp only at hI ih hP hD hS hl ⊢
    obtain ⟨hI, rfl⟩ := hI
    refine lv_iload hx hb dX5_weightOf_31 (lv_at hl 0 rfl) ?_
    refine lv_iload_n hx hb dX5_weightOf_33 rfl (lv_at hl 2 rfl) ?_
    refine lv_icmp_ge (tgt := 66) hx hb dX5_weightOf_34 (by decide) (fun c_2 => ?_) (fun c_2 => ?_)
    · skip
      have c_2 : (zsz w) ≤ (j + 1) := (nI_leI (a := (zsz w)) (b := (j + 1)) (by omega) (by omega)).mp c_2
      obtain rfl : zsz w - 1 = j := by omega
      refine lv_iload hx hb dX5_weightOf_66 (lv_at hl 1 rfl) ?_
      refine lv_iload_n hx hb dX5_weightOf_68 rfl (lv_at hl 2 rfl) ?_
      refine lv_iconst (v := 1) hx hb dX5_weightOf_69 (by decide) ?_
      refine lv_isub hx hb dX5_weightOf_70 ?_
      refine lv_topi (fun v_3 ev_3 => ?_)
      obtain rfl : v_3 = (nI ((zsz w) - 1)) := ev_3.trans (pk_sub (a := (zsz w)) (b := 1) (by omega))
      refine lv_idiv hx hb dX5_weightOf_71 (nI_ne0 (by omega) (by omega)) ?_
      exact W.iret (v := ((zsm pt pl w (zsz w - 1)) / (nI ((zsz w) - 1)))) hx hb hr (fun t ht hW => ⟨⟨_, (), rfl, (if_neg (by omega)).symm, by rw [ht]; exact hP, hD⟩, hS.F ht⟩) hS.2.2 dX5_weightOf_72
    · skip
      have c_2 : ¬ (zsz w) ≤ (j + 1) := fun hh => c_2 ((nI_leI (a := (zsz w)) (b := (j + 1)) (by omega) (by omega)).mpr hh)
      refine lv_iload hx hb dX5_weightOf_37 (lv_at hl 1 rfl) ?_
      refine lv_aload_n hx hb dX5_weightOf_39 rfl (lv_at hl 3 rfl) ?_
      refine lv_lload_n hx hb dX5_weightOf_40 rfl (lv_at hl 4 rfl) ?_
      refine lv_iload hx hb dX5_weightOf_41 (lv_at hl 0 rfl) ?_
      refine lv_iconst (v := 1) hx hb dX5_weightOf_43 (by decide) ?_
      refine lv_isub hx hb dX5_weightOf_44 ?_
      refine lv_topi (fun v_4 ev_4 => ?_)
      obtain rfl : v_4 = (nI j) := ev_4.trans ((pk_sub (a := (j + 1)) (b := 1) (by omega)).trans (congrArg nI (by omega)))
      refine zci (zrS (As := [.long w, .int (nI j)]) (rest := [.ref (h 0), .int (zsm pt pl w j)]) ⟨hx, hb, hml, hown, hts⟩ (zS hP hD hK hE hB hS) (c_X5_letter (k := j) (by omega)) (va_cwS 2 hts gX5_weightOf_X5_letter rfl rfl rfl hds_X5_letter ⟨Nat.le_of_ble_eq_true rfl, Nat.le_of_ble_eq_true rfl⟩) rfl rfl hl.1 rfl (lv_room (Nat.le_of_ble_eq_true rfl)) dX5_weightOf_45 ⟨Nat.le_of_ble_eq_true rfl, Nat.le_of_ble_eq_true rfl⟩) hS (fun H locs hP hD hS => ?_)
      have hP : va_P D vwCl (zWM cI cJ cZ h th (n, L) ((zcb kt pt), (zcb km pm), (zcb kl pl)) mc (run, wc, nu, lc, le, af, tr, ms, cl, tm) (co, yn, yh, pa) ++ R) _ := hP
      have hD : va_D (zAb B) (zWM cI cJ cZ h th (n, L) ((zcb kt pt), (zcb km pm), (zcb kl pl)) mc (run, wc, nu, lc, le, af, tr, ms, cl, tm) (co, yn, yh, pa) ++ R) := hD
      rw [show (zlt w (zsz w - 1 - j)) = (nI (zln w (zsz w - 1 - j))) from (zok_ln hz (by omega)).1]
      refine lv_lload_n hx hb dX5_weightOf_48 rfl (lv_at hl 4 rfl) ?_
      refine lv_iload hx hb dX5_weightOf_49 (lv_at hl 0 rfl) ?_
      refine zci (zrS (As := [.long w, .int (nI (j + 1))]) (rest := [.int (nI (zln w (zsz w - 1 - j))), .ref (h 0), .int (zsm pt pl w j)]) ⟨hx, hb, hml, hown, hts⟩ (zS hP hD hK hE hB hS) (c_X5_letter (k := (j + 1)) (by omega)) (va_cwS 2 hts gX5_weightOf_X5_letter rfl rfl rfl hds_X5_letter ⟨Nat.le_of_ble_eq_true rfl, Nat.le_of_ble_eq_true rfl⟩) rfl rfl hl.1 rfl (lv_room (Nat.le_of_ble_eq_true rfl)) dX5_weightOf_51 ⟨Nat.le_of_ble_eq_true rfl, Nat.le_of_ble_eq_true rfl⟩) hS (fun H locs hP hD hS => ?_)
      have hP : va_P D vwCl (zWM cI cJ cZ h th (n, L) ((zcb kt pt), (zcb km pm), (zcb kl pl)) mc (run, wc, nu, lc, le, af, tr, ms, cl, tm) (co, yn, yh, pa) ++ R) _ := hP
      have hD : va_D (zAb B) (zWM cI cJ cZ h th (n, L) ((zcb kt pt), (zcb km pm), (zcb kl pl)) mc (run, wc, nu, lc, le, af, tr, ms, cl, tm) (co, yn, yh, pa) ++ R) := hD
      rw [show (zlt w (zsz w - 1 - (j + 1))) = (nI (zln w (zsz w - 1 - (j + 1)))) from (zok_ln hz (by omega)).1]
      refine zci (zrV (As := [.int (nI (zln w (zsz w - 1 - j))), .int (nI (zln w (zsz w - 1 - (j + 1))))]) (rest := [.int (zsm pt pl w j)]) ⟨hx, hb, hml, hown, hts⟩ (zV 0 hP hD hK hE hB hS rfl rfl) (c_X5_weakness (a := (zln w (zsz w - 1 - j))) (b := (zln w (zsz w - 1 - (j + 1)))) ((zok_ln hz (by omega)).2) ((zok_ln hz (by omega)).2)) (cwV 2 hts gX5_weightOf_X5_weakness rfl rfl rfl hdv_X5_weakness ⟨Nat.le_of_ble_eq_true rfl, Nat.le_of_ble_eq_true rfl⟩) rfl rfl hl.1 rfl (lv_room (Nat.le_of_ble_eq_true rfl)) dX5_weightOf_54 ⟨Nat.le_of_ble_eq_true rfl, Nat.le_of_ble_eq_true rfl⟩) hS (fun H locs hP hD hS => ?_)
      have hP : va_P D vwCl (zWM cI cJ cZ h th (n, L) ((zcb kt pt), (zcb km pm), (zcb kl pl)) mc (run, wc, nu, lc, le, af, tr, ms, cl, tm) (co, yn, yh, pa) ++ R) _ := hP
      have hD : va_D (zAb B) (zWM cI cJ cZ h th (n, L) ((zcb kt pt), (zcb km pm), (zcb kl pl)) mc (run, wc, nu, lc, le, af, tr, ms, cl, tm) (co, yn, yh, pa) ++ R) := hD
      refine lv_iadd hx hb dX5_weightOf_57 ?_
      refine lv_istore (lv' := [(4, .int ((zsm pt pl w j) + (zwk pt pl (nI (26 * (zln w (zsz w - 1 - j)) + (zln w (zsz w - 1 - (j + 1)))))))), (5, .int (nI (j + 1))), (3, .int (nI (zsz w))), (0, .ref (h 0)), (1, .long w)]) hx hb dX5_weightOf_58 hl (by decide) rfl (fun ls hl => ?_)
      refine lv_iinc (v := (nI ((j + 1) + 1))) (lv' := [(5, .int (nI ((j + 1) + 1))), (4, .int ((zsm pt pl w j) + (zwk pt pl (nI (26 * (zln w (zsz w - 1 - j)) + (zln w (zsz w - 1 - (j + 1)))))))), (3, .int (nI (zsz w))), (0, .ref (h 0)), (1, .long w)]) hx hb dX5_weightOf_60 hl (k := 1) rfl (nI_add (j + 1) 1) (by decide) rfl (fun ls hl => ?_)
      refine lv_goto (tgt := 31) hx hb dX5_weightOf_63 (by decide) ?_
      exact ih (j + 1, ((zsm pt pl w j) + (zwk pt pl (nI (26 * (zln w (zsz w - 1 - j)) + (zln w (zsz w - 1 - (j + 1)))))))) (⟨by omega, (by rw [zsm, zpx_ln hz (by omega)])⟩) (by omega) _ _ _ hP hD hS (lv_sub hl [0, 1, 2, 3, 4] rfl)
  · skip
    have c_1 : (zsz w) = 1 := (nI_eq (a := (zsz w)) (b := 1) (by omega) (by omega)).mp c_1
    refine lv_sipush (v := 1000) hx hb dX5_weightOf_10 (by decide) ?_
    refine lv_aload_n hx hb dX5_weightOf_13 rfl (lv_at hl 1 rfl) ?_
    refine va_get (ci := 5) (v := .ref (h 4)) (C := RX5) (T := TX5) (N := 20) hx hb hts hinX5 hown hK hP 0 rfl rfl 5 (by decide) (hts (.fieldLink RX5 20 "TypingTutorModel" "levels" "[I") (List.mem_of_getElem? (i := 1) rfl)) (fun _ h9 => h9) rfl dX5_weightOf_14 ?_
    refine lv_lload_n hx hb dX5_weightOf_17 rfl (lv_at hl 2 rfl) ?_
    refine lv_iconst (v := 0) hx hb dX5_weightOf_18 (by decide) ?_
    refine zci (zrS (As := [.long w, .int 0]) (rest := [.ref (h 4), .int 1000]) ⟨hx, hb, hml, hown, hts⟩ (zS hP hD hK hE hB hS) (c_X5_letter (k := 0) (by omega)) (va_cwS 2 hts gX5_weightOf_X5_letter rfl rfl rfl hds_X5_letter ⟨Nat.le_of_ble_eq_true rfl, Nat.le_of_ble_eq_true rfl⟩) rfl rfl hl.1 rfl (lv_room (Nat.le_of_ble_eq_true rfl)) dX5_weightOf_19 ⟨Nat.le_of_ble_eq_true rfl, Nat.le_of_ble_eq_true rfl⟩) hS (fun H locs hP hD hS => ?_)
    have hP : va_P D vwCl (zWM cI cJ cZ h th (n, L) ((zcb kt pt), (zcb km pm), (zcb kl pl)) mc (run, wc, nu, lc, le, af, tr, ms, cl, tm) (co, yn, yh, pa) ++ R) _ := hP
    have hD : va_D (zAb B) (zWM cI cJ cZ h th (n, L) ((zcb kt pt), (zcb km pm), (zcb kl pl)) mc (run, wc, nu, lc, le, af, tr, ms, cl, tm) (co, yn, yh, pa) ++ R) := hD
    rw [show (zlt w (zsz w - 1 - 0)) = (nI (zln w (zsz w - 1 - 0))) from (zok_ln hz (by omega)).1]
    have hz0 := (zok_ln (j := zsz w - 1 - 0) hz (by omega)).2
    refine va_iald hx hb hK hP 4 0 rfl rfl (vp_in_nI (n := (zln w (zsz w - 1 - 0))) (N := 702) (by omega) (by omega)) dX5_weightOf_22 ?_
    rw [pk_cl (x := (nI (zln w (zsz w - 1 - 0)))) (zln w (zsz w - 1 - 0)) (rfl) (by omega)]
    rw [show ((zcb kt pt), (zcb km pm), (zcb kl pl)).2.2 (zln w (zsz w - 1 - 0)) = kl (zln w (zsz w - 1 - 0)) from zcb_k (by omega)]
    refine lv_isub hx hb dX5_weightOf_23 ?_
    exact W.iret (v := (1000 - (kl (zln w (zsz w - 1 - 0))))) hx hb hr (fun t ht hW => ⟨⟨_, (), rfl, (by rw [zwg, if_pos (by omega), (zok_ln (j := zsz w - 1) hz (by omega)).1, zrd_in (zok_ln (j := zsz w - 1) hz (by omega)).2 (by decide)]; rfl), by rw [ht]; exact hP, hD⟩, hS.F ht⟩) hS.2.2 dX5_weightOf_24

set_option maxHeartbeats 1000000 in
set_option maxRecDepth 100000 in
theorem c_X5_weight {l : Launch} {B kr kp : Nat} {D : va_G} {cI cJ cZ : ClassId} {h : Nat → Nat} {R : va_W} {th : Int32} {n : Nat} {L : Nat → Int64} {kt : Nat → Int32} {km : Nat → Int32} {kl : Nat → Int32} {pt : Nat → Int32} {pm : Nat → Int32} {pl : Nat → Int32} {nu : Nat → Int32} {le : Nat → Int32} {af : Nat → Int32} {run : Bool} {wc : Nat} {lc : Nat} {tr : Nat} {cl : Nat} {tm : Nat} {ms : Nat} {co : Nat} {yn : Nat} {yh : Nat → Int32} {pa : Int32} {mc : Nat → Int32} {k : Nat}   (hk : k < n) (hn : n ≤ 40) (hz : zok (L k) = true) : Met l yX5_weight wsX5_weight ({ frames := 3, cells := 0, slots := 0, locals := 69 }) (zPc B kr kp D (zTy cI cJ cZ) (zWM cI cJ cZ h th (n, L) ((zcb kt pt), (zcb km pm), (zcb kl pl)) mc (run, wc, nu, lc, le, af, tr, ms, cl, tm) (co, yn, yh, pa) ++ R) [.ref (h 0), .int (nI k)]) (zQi B D (zWM cI cJ cZ h 0 (n, L) ((zcb kt pt), (zcb km pm), (zcb kl pl)) mc (run, wc, nu, lc, le, af, tr, ms, cl, tm) (co, yn, yh, pa) ++ R) (zwg kl pt pl (L k))) 0 0 (zAb B) := by
  refine Met.ofW (cc := cX5_weight) (maxL := 2) (ret := (some .int)) (by decide) rfl ?_
  intro p e s m args below meth c s₁ B0 hml hv
  obtain ⟨rfl, hP, hD, hK, hE, hB⟩ := hv
  have hx := B0.exec
  have hb := B0.bytes
  have hr := B0.returns
  have hts := atoms_spec (ws := wsX5_weight) B0.pre
  have hown : s.vm.findClass RX5 = some m.cls := findClass_of_methodNamed B0.named
  have hlocks := B0.notSynchronized
  have hA : ∀ q : Nat, s.heap.size ≤ q → zAb B q := fun q hq => Nat.le_trans hB hq
  have hS : va_S (zAb B) s.heap s.heap [] := va_S.rf
  have hl := lv_entry ([.ref (h 0), .int (nI k)]) (n := 2) (Nat.le_of_ble_eq_true rfl)
  rw [lg_entry_eq]
  generalize (lg_sl ([.ref (h 0), .int (nI k)]) ++ List.replicate (2 - (lg_sl ([.ref (h 0), .int (nI k)])).length) Slot.unset).toArray = ls at hl ⊢
  have hl : lv_has ls 2 [(0, .ref (h 0)), (1, .int (nI k))] := hl
  have hinX5 : ∀ w ∈ wsX50, w ∈ wsX5_weight := fun _ h => List.mem_cons_of_mem _ (List.mem_append_right _ h)
  have hP : va_P D vwCl (zWM cI cJ cZ h th (n, L) ((zcb kt pt), (zcb km pm), (zcb kl pl)) mc (run, wc, nu, lc, le, af, tr, ms, cl, tm) (co, yn, yh, pa) ++ R) s.heap := hP
  have hD : va_D (zAb B) (zWM cI cJ cZ h th (n, L) ((zcb kt pt), (zcb km pm), (zcb kl pl)) mc (run, wc, nu, lc, le, af, tr, ms, cl, tm) (co, yn, yh, pa) ++ R) := hD
  refine lv_aload_n hx hb dX5_weight_0 rfl (lv_at hl 0 rfl) ?_
  refine lv_iconst (v := 0) hx hb dX5_weight_1 (by decide) ?_
  refine va_put (ci := 5) (v := .int 0) (ty := .int) (C := RX5) (T := TX5) (N := 20) hx hb hts hinX5 tyX5 tyX5_ok nmX5 hown hK hP hD hS 0 rfl rfl 0 (by decide) (hts (.fieldLink RX5 43 "TypingTutorModel" "thrown" "I") (List.mem_of_getElem? (i := 1) rfl)) (fun _ h9 => h9) rfl (by decide +kernel) rfl rfl (Nat.le_of_ble_eq_true rfl) dX5_weight_2 (fun H locs hP hD hS => ?_)
  have hP : va_P D vwCl (zWM cI cJ cZ h 0 (n, L) ((zcb kt pt), (zcb km pm), (zcb kl pl)) mc (run, wc, nu, lc, le, af, tr, ms, cl, tm) (co, yn, yh, pa) ++ R) _ := hP
  have hD : va_D (zAb B) (zWM cI cJ cZ h 0 (n, L) ((zcb kt pt), (zcb km pm), (zcb kl pl)) mc (run, wc, nu, lc, le, af, tr, ms, cl, tm) (co, yn, yh, pa) ++ R) := hD
  refine lv_aload_n hx hb dX5_weight_5 rfl (lv_at hl 0 rfl) ?_
  refine lv_iload_n hx hb dX5_weight_6 rfl (lv_at hl 1 rfl) ?_
  refine zci (zrV (As := [.int (nI k)]) (rest := []) ⟨hx, hb, hml, hown, hts⟩ (zV 0 hP hD hK hE hB hS rfl rfl) (c_X5_isNumber  ) (cwV 1 hts gX5_weight_X5_isNumber rfl rfl rfl hdv_X5_isNumber ⟨Nat.le_of_ble_eq_true rfl, Nat.le_of_ble_eq_true rfl⟩) rfl rfl hl.1 rfl (lv_room (Nat.le_of_ble_eq_true rfl)) dX5_weight_7 ⟨Nat.le_of_ble_eq_true rfl, Nat.le_of_ble_eq_true rfl⟩) hS (fun H locs hP hD hS => ?_)
  have hP : va_P D vwCl (zWM cI cJ cZ h 0 (n, L) ((zcb kt pt), (zcb km pm), (zcb kl pl)) mc (run, wc, nu, lc, le, af, tr, ms, cl, tm) (co, yn, yh, pa) ++ R) _ := hP
  have hD : va_D (zAb B) (zWM cI cJ cZ h 0 (n, L) ((zcb kt pt), (zcb km pm), (zcb kl pl)) mc (run, wc, nu, lc, le, af, tr, ms, cl, tm) (co, yn, yh, pa) ++ R) := hD
  refine lv_if_eq (tgt := 26) hx hb dX5_weight_10 (by decide) (fun c_1 => ?_) (fun c_1 => ?_)
  · skip
    have c_1 := zq_0 c_1
    exact absurd ⟨nI_pos (by omega), nI_ge hk (by omega)⟩ c_1
  · skip
    have c_1 := zq_n c_1
    refine lv_aload_n hx hb dX5_weight_13 rfl (lv_at hl 0 rfl) ?_
    refine lv_aload_n hx hb dX5_weight_14 rfl (lv_at hl 0 rfl) ?_
    refine va_get (ci := 5) (v := .ref (h 1)) (C := RX5) (T := TX5) (N := 20) hx hb hts hinX5 hown hK hP 0 rfl rfl 2 (by decide) (hts (.fieldLink RX5 9 "TypingTutorModel" "list" "[J") (List.mem_of_getElem? (i := 2) rfl)) (fun _ h9 => h9) rfl dX5_weight_15 ?_
    refine lv_iload_n hx hb dX5_weight_18 rfl (lv_at hl 1 rfl) ?_
    refine va_lald hx hb hK hP 1 1 rfl rfl (vp_in_nI (n := k) (N := 40) (by omega) (by omega)) dX5_weight_19 ?_
    rw [pk_cl (x := (nI k)) k (rfl) (by omega)]
    refine zci (zrV (As := [.long (L k)]) (rest := []) ⟨hx, hb, hml, hown, hts⟩ (zV 0 hP hD hK hE hB hS rfl rfl) (c_X5_weightOf  (hz)) (cwV 1 hts gX5_weight_X5_weightOf rfl rfl rfl hdv_X5_weightOf ⟨Nat.le_of_ble_eq_true rfl, Nat.le_of_ble_eq_true rfl⟩) rfl rfl hl.1 rfl (lv_room (Nat.le_of_ble_eq_true rfl)) dX5_weight_20 ⟨Nat.le_of_ble_eq_true rfl, Nat.le_of_ble_eq_true rfl⟩) hS (fun H locs hP hD hS => ?_)
    have hP : va_P D vwCl (zWM cI cJ cZ h 0 (n, L) ((zcb kt pt), (zcb km pm), (zcb kl pl)) mc (run, wc, nu, lc, le, af, tr, ms, cl, tm) (co, yn, yh, pa) ++ R) _ := hP
    have hD : va_D (zAb B) (zWM cI cJ cZ h 0 (n, L) ((zcb kt pt), (zcb km pm), (zcb kl pl)) mc (run, wc, nu, lc, le, af, tr, ms, cl, tm) (co, yn, yh, pa) ++ R) := hD
    refine lv_goto (tgt := 31) hx hb dX5_weight_23 (by decide) ?_
    exact W.iret (v := (zwg kl pt pl (L k))) hx hb hr (fun t ht hW => ⟨⟨_, (), rfl, rfl, by rw [ht]; exact hP, hD⟩, hS.F ht⟩) hS.2.2 dX5_weight_31

set_option maxHeartbeats 1000000 in
set_option maxRecDepth 100000 in
theorem c_X5_weight_x {l : Launch} {B kr kp : Nat} {D : va_G} {cI cJ cZ : ClassId} {h : Nat → Nat} {R : va_W} {th : Int32} {n : Nat} {L : Nat → Int64} {kt : Nat → Int32} {km : Nat → Int32} {kl : Nat → Int32} {pt : Nat → Int32} {pm : Nat → Int32} {pl : Nat → Int32} {nu : Nat → Int32} {le : Nat → Int32} {af : Nat → Int32} {run : Bool} {wc : Nat} {lc : Nat} {tr : Nat} {cl : Nat} {tm : Nat} {ms : Nat} {co : Nat} {yn : Nat} {yh : Nat → Int32} {pa : Int32} {mc : Nat → Int32} {i : Int32}   (hi : i < 0 ∨ nI n ≤ i) (hn : n ≤ 40) : Met l yX5_weight wsX5_weight ({ frames := 1, cells := 0, slots := 0, locals := 21 }) (zPc B kr kp D (zTy cI cJ cZ) (zWM cI cJ cZ h th (n, L) ((zcb kt pt), (zcb km pm), (zcb kl pl)) mc (run, wc, nu, lc, le, af, tr, ms, cl, tm) (co, yn, yh, pa) ++ R) [.ref (h 0), .int i]) (zQi B D (zWM cI cJ cZ h 1 (n, L) ((zcb kt pt), (zcb km pm), (zcb kl pl)) mc (run, wc, nu, lc, le, af, tr, ms, cl, tm) (co, yn, yh, pa) ++ R) 0) 0 0 (zAb B) := by
  refine Met.ofW (cc := cX5_weight) (maxL := 2) (ret := (some .int)) (by decide) rfl ?_
  intro p e s m args below meth c s₁ B0 hml hv
  obtain ⟨rfl, hP, hD, hK, hE, hB⟩ := hv
  have hx := B0.exec
  have hb := B0.bytes
  have hr := B0.returns
  have hts := atoms_spec (ws := wsX5_weight) B0.pre
  have hown : s.vm.findClass RX5 = some m.cls := findClass_of_methodNamed B0.named
  have hlocks := B0.notSynchronized
  have hA : ∀ q : Nat, s.heap.size ≤ q → zAb B q := fun q hq => Nat.le_trans hB hq
  have hS : va_S (zAb B) s.heap s.heap [] := va_S.rf
  have hl := lv_entry ([.ref (h 0), .int i]) (n := 2) (Nat.le_of_ble_eq_true rfl)
  rw [lg_entry_eq]
  generalize (lg_sl ([.ref (h 0), .int i]) ++ List.replicate (2 - (lg_sl ([.ref (h 0), .int i])).length) Slot.unset).toArray = ls at hl ⊢
  have hl : lv_has ls 2 [(0, .ref (h 0)), (1, .int i)] := hl
  have hinX5 : ∀ w ∈ wsX50, w ∈ wsX5_weight := fun _ h => List.mem_cons_of_mem _ (List.mem_append_right _ h)
  have hP : va_P D vwCl (zWM cI cJ cZ h th (n, L) ((zcb kt pt), (zcb km pm), (zcb kl pl)) mc (run, wc, nu, lc, le, af, tr, ms, cl, tm) (co, yn, yh, pa) ++ R) s.heap := hP
  have hD : va_D (zAb B) (zWM cI cJ cZ h th (n, L) ((zcb kt pt), (zcb km pm), (zcb kl pl)) mc (run, wc, nu, lc, le, af, tr, ms, cl, tm) (co, yn, yh, pa) ++ R) := hD
  refine lv_aload_n hx hb dX5_weight_0 rfl (lv_at hl 0 rfl) ?_
  refine lv_iconst (v := 0) hx hb dX5_weight_1 (by decide) ?_
  refine va_put (ci := 5) (v := .int 0) (ty := .int) (C := RX5) (T := TX5) (N := 20) hx hb hts hinX5 tyX5 tyX5_ok nmX5 hown hK hP hD hS 0 rfl rfl 0 (by decide) (hts (.fieldLink RX5 43 "TypingTutorModel" "thrown" "I") (List.mem_of_getElem? (i := 1) rfl)) (fun _ h9 => h9) rfl (by decide +kernel) rfl rfl (Nat.le_of_ble_eq_true rfl) dX5_weight_2 (fun H locs hP hD hS => ?_)
  have hP : va_P D vwCl (zWM cI cJ cZ h 0 (n, L) ((zcb kt pt), (zcb km pm), (zcb kl pl)) mc (run, wc, nu, lc, le, af, tr, ms, cl, tm) (co, yn, yh, pa) ++ R) _ := hP
  have hD : va_D (zAb B) (zWM cI cJ cZ h 0 (n, L) ((zcb kt pt), (zcb km pm), (zcb kl pl)) mc (run, wc, nu, lc, le, af, tr, ms, cl, tm) (co, yn, yh, pa) ++ R) := hD
  refine lv_aload_n hx hb dX5_weight_5 rfl (lv_at hl 0 rfl) ?_
  refine lv_iload_n hx hb dX5_weight_6 rfl (lv_at hl 1 rfl) ?_
  refine zci (zrV (As := [.int i]) (rest := []) ⟨hx, hb, hml, hown, hts⟩ (zV 0 hP hD hK hE hB hS rfl rfl) (c_X5_isNumber  ) (cwV 1 hts gX5_weight_X5_isNumber rfl rfl rfl hdv_X5_isNumber ⟨Nat.le_of_ble_eq_true rfl, Nat.le_of_ble_eq_true rfl⟩) rfl rfl hl.1 rfl (lv_room (Nat.le_of_ble_eq_true rfl)) dX5_weight_7 ⟨Nat.le_of_ble_eq_true rfl, Nat.le_of_ble_eq_true rfl⟩) hS (fun H locs hP hD hS => ?_)
  have hP : va_P D vwCl (zWM cI cJ cZ h 0 (n, L) ((zcb kt pt), (zcb km pm), (zcb kl pl)) mc (run, wc, nu, lc, le, af, tr, ms, cl, tm) (co, yn, yh, pa) ++ R) _ := hP
  have hD : va_D (zAb B) (zWM cI cJ cZ h 0 (n, L) ((zcb kt pt), (zcb km pm), (zcb kl pl)) mc (run, wc, nu, lc, le, af, tr, ms, cl, tm) (co, yn, yh, pa) ++ R) := hD
  refine lv_if_eq (tgt := 26) hx hb dX5_weight_10 (by decide) (fun c_1 => ?_) (fun c_1 => ?_)
  · skip
    have c_1 := zq_0 c_1
    refine lv_aload_n hx hb dX5_weight_26 rfl (lv_at hl 0 rfl) ?_
    refine lv_iconst (v := 1) hx hb dX5_weight_27 (by decide) ?_
    refine zci (zrV (As := [.int 1]) (rest := []) ⟨hx, hb, hml, hown, hts⟩ (zV 0 hP hD hK hE hB hS rfl rfl) (c_X5_fail  ) (cwV 1 hts gX5_weight_X5_fail rfl rfl rfl hdv_X5_fail ⟨Nat.le_of_ble_eq_true rfl, Nat.le_of_ble_eq_true rfl⟩) rfl rfl hl.1 rfl (lv_room (Nat.le_of_ble_eq_true rfl)) dX5_weight_28 ⟨Nat.le_of_ble_eq_true rfl, Nat.le_of_ble_eq_true rfl⟩) hS (fun H locs hP hD hS => ?_)
    have hP : va_P D vwCl (zWM cI cJ cZ h 1 (n, L) ((zcb kt pt), (zcb km pm), (zcb kl pl)) mc (run, wc, nu, lc, le, af, tr, ms, cl, tm) (co, yn, yh, pa) ++ R) _ := hP
    have hD : va_D (zAb B) (zWM cI cJ cZ h 1 (n, L) ((zcb kt pt), (zcb km pm), (zcb kl pl)) mc (run, wc, nu, lc, le, af, tr, ms, cl, tm) (co, yn, yh, pa) ++ R) := hD
    exact W.iret (v := 0) hx hb hr (fun t ht hW => ⟨⟨_, (), rfl, rfl, by rw [ht]; exact hP, hD⟩, hS.F ht⟩) hS.2.2 dX5_weight_31
  · skip
    have c_1 := zq_n c_1
    exact hi.elim (fun q => absurd q c_1.1) (fun q => absurd q c_1.2)

set_option maxHeartbeats 1000000 in
set_option maxRecDepth 100000 in
theorem c_X5_put {l : Launch} {B kr kp : Nat} {D : va_G} {cI cJ cZ : ClassId} {h : Nat → Nat} {R : va_W} {th : Int32} {n : Nat} {L : Nat → Int64} {kt : Nat → Int32} {km : Nat → Int32} {kl : Nat → Int32} {pt : Nat → Int32} {pm : Nat → Int32} {pl : Nat → Int32} {nu : Nat → Int32} {le : Nat → Int32} {af : Nat → Int32} {run : Bool} {wc : Nat} {lc : Nat} {tr : Nat} {cl : Nat} {tm : Nat} {ms : Nat} {co : Nat} {yn : Nat} {yh : Nat → Int32} {pa : Int32} {mc : Nat → Int32} {k : Nat}   (hk : k < 40) (hwc : wc < 6) (hlc : lc + zsz (L k) ≤ 48) : Met l yX5_put wsX5_put ({ frames := 2, cells := 0, slots := 0, locals := 44 }) (zPc B kr kp D (zTy cI cJ cZ) (zWM cI cJ cZ h th (n, L) ((zcb kt pt), (zcb km pm), (zcb kl pl)) mc (run, wc, nu, lc, le, af, tr, ms, cl, tm) (co, yn, yh, pa) ++ R) [.ref (h 0), .int (nI k)]) (zQv B D (zWM cI cJ cZ h th (n, L) ((zcb kt pt), (zcb km pm), (zcb kl pl)) mc (run, (wc + 1), (upd nu wc (nI k)), (lc + zsz (L k)), (zale le lc (L k) (zsz (L k))), (zaaf af lc (zsz (L k))), tr, ms, cl, tm) (co, yn, yh, pa) ++ R)) 0 0 (zAb B) := by
  refine Met.ofW (cc := cX5_put) (maxL := 3) (ret := none) (by decide) rfl ?_
  intro p e s m args below meth c s₁ B0 hml hv
  obtain ⟨rfl, hP, hD, hK, hE, hB⟩ := hv
  have hx := B0.exec
  have hb := B0.bytes
  have hr := B0.returns
  have hts := atoms_spec (ws := wsX5_put) B0.pre
  have hown : s.vm.findClass RX5 = some m.cls := findClass_of_methodNamed B0.named
  have hlocks := B0.notSynchronized
  have hA : ∀ q : Nat, s.heap.size ≤ q → zAb B q := fun q hq => Nat.le_trans hB hq
  have hS : va_S (zAb B) s.heap s.heap [] := va_S.rf
  have hl := lv_entry ([.ref (h 0), .int (nI k)]) (n := 3) (Nat.le_of_ble_eq_true rfl)
  rw [lg_entry_eq]
  generalize (lg_sl ([.ref (h 0), .int (nI k)]) ++ List.replicate (3 - (lg_sl ([.ref (h 0), .int (nI k)])).length) Slot.unset).toArray = ls at hl ⊢
  have hl : lv_has ls 3 [(0, .ref (h 0)), (1, .int (nI k))] := hl
  have hinX5 : ∀ w ∈ wsX50, w ∈ wsX5_put := fun _ h => List.mem_cons_of_mem _ (List.mem_append_right _ h)
  have hP : va_P D vwCl (zWM cI cJ cZ h th (n, L) ((zcb kt pt), (zcb km pm), (zcb kl pl)) mc (run, wc, nu, lc, le, af, tr, ms, cl, tm) (co, yn, yh, pa) ++ R) s.heap := hP
  have hD : va_D (zAb B) (zWM cI cJ cZ h th (n, L) ((zcb kt pt), (zcb km pm), (zcb kl pl)) mc (run, wc, nu, lc, le, af, tr, ms, cl, tm) (co, yn, yh, pa) ++ R) := hD
  have h8 := zsz_le (L k)
  refine lv_aload_n hx hb dX5_put_0 rfl (lv_at hl 0 rfl) ?_
  refine va_get (ci := 5) (v := .ref (h 6)) (C := RX5) (T := TX5) (N := 20) hx hb hts hinX5 hown hK hP 0 rfl rfl 9 (by decide) (hts (.fieldLink RX5 26 "TypingTutorModel" "chosen" "[I") (List.mem_of_getElem? (i := 1) rfl)) (fun _ h9 => h9) rfl dX5_put_1 ?_
  refine lv_aload_n hx hb dX5_put_4 rfl (lv_at hl 0 rfl) ?_
  refine va_get (ci := 5) (v := .int (nI wc)) (C := RX5) (T := TX5) (N := 20) hx hb hts hinX5 hown hK hP 0 rfl rfl 8 (by decide) (hts (.fieldLink RX5 100 "TypingTutorModel" "lessonWords" "I") (List.mem_of_getElem? (i := 2) rfl)) (fun _ h9 => h9) rfl dX5_put_5 ?_
  refine lv_iload_n hx hb dX5_put_8 rfl (lv_at hl 1 rfl) ?_
  refine va_iast hx hb hK hP hD hS 6 0 rfl rfl (vp_in_nI (n := wc) (N := 6) (by omega) (by omega)) dX5_put_9 (fun H locs hP hD hS => ?_)
  rw [pk_cl (x := (nI wc)) wc (rfl) (by omega)] at hP hD
  have hP : va_P D vwCl (zWM cI cJ cZ h th (n, L) ((zcb kt pt), (zcb km pm), (zcb kl pl)) mc (run, wc, (upd nu wc (nI k)), lc, le, af, tr, ms, cl, tm) (co, yn, yh, pa) ++ R) _ := hP
  have hD : va_D (zAb B) (zWM cI cJ cZ h th (n, L) ((zcb kt pt), (zcb km pm), (zcb kl pl)) mc (run, wc, (upd nu wc (nI k)), lc, le, af, tr, ms, cl, tm) (co, yn, yh, pa) ++ R) := hD
  refine lv_aload_n hx hb dX5_put_10 rfl (lv_at hl 0 rfl) ?_
  refine lv_dup hx hb dX5_put_11 rfl ?_
  refine va_get (ci := 5) (v := .int (nI wc)) (C := RX5) (T := TX5) (N := 20) hx hb hts hinX5 hown hK hP 0 rfl rfl 8 (by decide) (hts (.fieldLink RX5 100 "TypingTutorModel" "lessonWords" "I") (List.mem_of_getElem? (i := 2) rfl)) (fun _ h9 => h9) rfl dX5_put_12 ?_
  refine lv_iconst (v := 1) hx hb dX5_put_15 (by decide) ?_
  refine lv_iadd hx hb dX5_put_16 ?_
  refine lv_topi (fun v_1 ev_1 => ?_)
  obtain rfl : v_1 = (nI (wc + 1)) := ev_1.trans (nI_add wc 1)
  refine va_put (ci := 5) (v := .int (nI (wc + 1))) (ty := .int) (C := RX5) (T := TX5) (N := 20) hx hb hts hinX5 tyX5 tyX5_ok nmX5 hown hK hP hD hS 0 rfl rfl 8 (by decide) (hts (.fieldLink RX5 100 "TypingTutorModel" "lessonWords" "I") (List.mem_of_getElem? (i := 2) rfl)) (fun _ h9 => h9) rfl (by decide +kernel) rfl rfl (Nat.le_of_ble_eq_true rfl) dX5_put_17 (fun H locs hP hD hS => ?_)
  have hP : va_P D vwCl (zWM cI cJ cZ h th (n, L) ((zcb kt pt), (zcb km pm), (zcb kl pl)) mc (run, (wc + 1), (upd nu wc (nI k)), lc, le, af, tr, ms, cl, tm) (co, yn, yh, pa) ++ R) _ := hP
  have hD : va_D (zAb B) (zWM cI cJ cZ h th (n, L) ((zcb kt pt), (zcb km pm), (zcb kl pl)) mc (run, (wc + 1), (upd nu wc (nI k)), lc, le, af, tr, ms, cl, tm) (co, yn, yh, pa) ++ R) := hD
  refine lv_iconst (v := 0) hx hb dX5_put_20 (by decide) ?_
  refine lv_istore_n (lv' := [(2, .int 0), (0, .ref (h 0)), (1, .int (nI k))]) hx hb dX5_put_21 rfl hl (by decide) rfl (fun ls hl => ?_)
  have hP : va_P D vwCl (zWM cI cJ cZ h th (n, L) ((zcb kt pt), (zcb km pm), (zcb kl pl)) mc (run, (wc + 1), (upd nu wc (nI k)), (lc + 0), (zale le lc (L k) 0), (zaaf af lc 0), tr, ms, cl, tm) (co, yn, yh, pa) ++ R) H := by rw [zale_0, zaaf_0]; exact hP
  have hD : va_D (zAb B) (zWM cI cJ cZ h th (n, L) ((zcb kt pt), (zcb km pm), (zcb kl pl)) mc (run, (wc + 1), (upd nu wc (nI k)), (lc + 0), (zale le lc (L k) 0), (zaaf af lc 0), tr, ms, cl, tm) (co, yn, yh, pa) ++ R) := by rw [zale_0, zaaf_0]; exact hD
  refine zloop (σ := (Nat)) (nL := 3) (fun x9 => (zWM cI cJ cZ h th (n, L) ((zcb kt pt), (zcb km pm), (zcb kl pl)) mc (run, (wc + 1), (upd nu wc (nI k)), (lc + x9), (zale le lc (L k) x9), (zaaf af lc x9), tr, ms, cl, tm) (co, yn, yh, pa) ++ R)) (fun x9 => [(2, .int (nI x9)), (0, .ref (h 0)), (1, .int (nI k))]) (fun x9 => []) (fun x9 => x9 ≤ zsz (L k)) (fun x9 => zsz (L k) - x9) ?_ (0) (by omega) _ _ _ hP hD hS (lv_sub hl [0, 1, 2] rfl)
  rintro j hI ih H locs ls hP hD hS hl
  try dsimp only at hI ih hP hD hS hl ⊢
  refine lv_iload_n hx hb dX5_put_22 rfl (lv_at hl 0 rfl) ?_
  refine lv_aload_n hx hb dX5_put_23 rfl (lv_at hl 1 rfl) ?_
  refine va_get (ci := 5) (v := .ref (h 1)) (C := RX5) (T := TX5) (N := 20) hx hb hts hinX5 hown hK hP 0 rfl rfl 2 (by decide) (hts (.fieldLink RX5 9 "TypingTutorModel" "list" "[J") (List.mem_of_getElem? (i := 3) rfl)) (fun _ h9 => h9) rfl dX5_put_24 ?_
  refine lv_iload_n hx hb dX5_put_27 rfl (lv_at hl 2 rfl) ?_
  refine va_lald hx hb hK hP 1 1 rfl rfl (vp_in_nI (n := k) (N := 40) (by omega) (by omega)) dX5_put_28 ?_
  rw [pk_cl (x := (nI k)) k (rfl) (by omega)]
  refine zci (zrS (As := [.long (L k)]) (rest := [.int (nI j)]) ⟨hx, hb, hml, hown, hts⟩ (zS hP hD hK hE hB hS) (c_X5_size  ) (va_cwS 1 hts gX5_put_X5_size rfl rfl rfl hds_X5_size ⟨Nat.le_of_ble_eq_true rfl, Nat.le_of_ble_eq_true rfl⟩) rfl rfl hl.1 rfl (lv_room (Nat.le_of_ble_eq_true rfl)) dX5_put_29 ⟨Nat.le_of_ble_eq_true rfl, Nat.le_of_ble_eq_true rfl⟩) hS (fun H locs hP hD hS => ?_)
  have hP : va_P D vwCl (zWM cI cJ cZ h th (n, L) ((zcb kt pt), (zcb km pm), (zcb kl pl)) mc (run, (wc + 1), (upd nu wc (nI k)), (lc + j), (zale le lc (L k) j), (zaaf af lc j), tr, ms, cl, tm) (co, yn, yh, pa) ++ R) _ := hP
  have hD : va_D (zAb B) (zWM cI cJ cZ h th (n, L) ((zcb kt pt), (zcb km pm), (zcb kl pl)) mc (run, (wc + 1), (upd nu wc (nI k)), (lc + j), (zale le lc (L k) j), (zaaf af lc j), tr, ms, cl, tm) (co, yn, yh, pa) ++ R) := hD
  refine lv_icmp_ge (tgt := 88) hx hb dX5_put_32 (by decide) (fun c_2 => ?_) (fun c_2 => ?_)
  · skip
    have c_2 : (zsz (L k)) ≤ j := (nI_leI (a := (zsz (L k))) (b := j) (by omega) (by omega)).mp c_2
    obtain rfl : zsz (L k) = j := by omega
    exact W.vret hx hb hr (fun t ht hW => ⟨⟨(), rfl, trivial, by rw [ht]; exact hP, hD⟩, hS.F ht⟩) hS.2.2 dX5_put_88
  · skip
    have c_2 : ¬ (zsz (L k)) ≤ j := fun hh => c_2 ((nI_leI (a := (zsz (L k))) (b := j) (by omega) (by omega)).mpr hh)
    refine lv_aload_n hx hb dX5_put_35 rfl (lv_at hl 1 rfl) ?_
    refine va_get (ci := 5) (v := .ref (h 7)) (C := RX5) (T := TX5) (N := 20) hx hb hts hinX5 hown hK hP 0 rfl rfl 11 (by decide) (hts (.fieldLink RX5 29 "TypingTutorModel" "text" "[I") (List.mem_of_getElem? (i := 4) rfl)) (fun _ h9 => h9) rfl dX5_put_36 ?_
    refine lv_aload_n hx hb dX5_put_39 rfl (lv_at hl 1 rfl) ?_
    refine va_get (ci := 5) (v := .int (nI (lc + j))) (C := RX5) (T := TX5) (N := 20) hx hb hts hinX5 hown hK hP 0 rfl rfl 10 (by decide) (hts (.fieldLink RX5 103 "TypingTutorModel" "letters" "I") (List.mem_of_getElem? (i := 5) rfl)) (fun _ h9 => h9) rfl dX5_put_40 ?_
    refine lv_aload_n hx hb dX5_put_43 rfl (lv_at hl 1 rfl) ?_
    refine va_get (ci := 5) (v := .ref (h 1)) (C := RX5) (T := TX5) (N := 20) hx hb hts hinX5 hown hK hP 0 rfl rfl 2 (by decide) (hts (.fieldLink RX5 9 "TypingTutorModel" "list" "[J") (List.mem_of_getElem? (i := 3) rfl)) (fun _ h9 => h9) rfl dX5_put_44 ?_
    refine lv_iload_n hx hb dX5_put_47 rfl (lv_at hl 2 rfl) ?_
    refine va_lald hx hb hK hP 1 1 rfl rfl (vp_in_nI (n := k) (N := 40) (by omega) (by omega)) dX5_put_48 ?_
    rw [pk_cl (x := (nI k)) k (rfl) (by omega)]
    refine lv_iload_n hx hb dX5_put_49 rfl (lv_at hl 0 rfl) ?_
    refine zci (zrS (As := [.long (L k), .int (nI j)]) (rest := [.int (nI (lc + j)), .ref (h 7)]) ⟨hx, hb, hml, hown, hts⟩ (zS hP hD hK hE hB hS) (c_X5_letter (k := j) (by omega)) (va_cwS 2 hts gX5_put_X5_letter rfl rfl rfl hds_X5_letter ⟨Nat.le_of_ble_eq_true rfl, Nat.le_of_ble_eq_true rfl⟩) rfl rfl hl.1 rfl (lv_room (Nat.le_of_ble_eq_true rfl)) dX5_put_50 ⟨Nat.le_of_ble_eq_true rfl, Nat.le_of_ble_eq_true rfl⟩) hS (fun H locs hP hD hS => ?_)
    have hP : va_P D vwCl (zWM cI cJ cZ h th (n, L) ((zcb kt pt), (zcb km pm), (zcb kl pl)) mc (run, (wc + 1), (upd nu wc (nI k)), (lc + j), (zale le lc (L k) j), (zaaf af lc j), tr, ms, cl, tm) (co, yn, yh, pa) ++ R) _ := hP
    have hD : va_D (zAb B) (zWM cI cJ cZ h th (n, L) ((zcb kt pt), (zcb km pm), (zcb kl pl)) mc (run, (wc + 1), (upd nu wc (nI k)), (lc + j), (zale le lc (L k) j), (zaaf af lc j), tr, ms, cl, tm) (co, yn, yh, pa) ++ R) := hD
    refine va_iast hx hb hK hP hD hS 7 0 rfl rfl (vp_in_nI (n := (lc + j)) (N := 48) (by omega) (by omega)) dX5_put_53 (fun H locs hP hD hS => ?_)
    rw [pk_cl (x := (nI (lc + j))) (lc + j) (rfl) (by omega)] at hP hD
    have hP : va_P D vwCl (zWM cI cJ cZ h th (n, L) ((zcb kt pt), (zcb km pm), (zcb kl pl)) mc (run, (wc + 1), (upd nu wc (nI k)), (lc + j), (upd (zale le lc (L k) j) (lc + j) (zlt (L k) (zsz (L k) - 1 - j))), (zaaf af lc j), tr, ms, cl, tm) (co, yn, yh, pa) ++ R) _ := hP
    have hD : va_D (zAb B) (zWM cI cJ cZ h th (n, L) ((zcb kt pt), (zcb km pm), (zcb kl pl)) mc (run, (wc + 1), (upd nu wc (nI k)), (lc + j), (upd (zale le lc (L k) j) (lc + j) (zlt (L k) (zsz (L k) - 1 - j))), (zaaf af lc j), tr, ms, cl, tm) (co, yn, yh, pa) ++ R) := hD
    refine lv_aload_n hx hb dX5_put_54 rfl (lv_at hl 1 rfl) ?_
    refine va_get (ci := 5) (v := .ref (h 8)) (C := RX5) (T := TX5) (N := 20) hx hb hts hinX5 hown hK hP 0 rfl rfl 12 (by decide) (hts (.fieldLink RX5 32 "TypingTutorModel" "areFirst" "[Z") (List.mem_of_getElem? (i := 6) rfl)) (fun _ h9 => h9) rfl dX5_put_55 ?_
    refine lv_aload_n hx hb dX5_put_58 rfl (lv_at hl 1 rfl) ?_
    refine va_get (ci := 5) (v := .int (nI (lc + j))) (C := RX5) (T := TX5) (N := 20) hx hb hts hinX5 hown hK hP 0 rfl rfl 10 (by decide) (hts (.fieldLink RX5 103 "TypingTutorModel" "letters" "I") (List.mem_of_getElem? (i := 5) rfl)) (fun _ h9 => h9) rfl dX5_put_59 ?_
    refine lv_iload_n hx hb dX5_put_62 rfl (lv_at hl 0 rfl) ?_
    refine lv_if_ne (tgt := 70) hx hb dX5_put_63 (by decide) (fun c_3 => ?_) (fun c_3 => ?_)
    · skip
      have c_3 : ¬ j = 0 := fun hh => c_3 ((nI_eq (a := j) (b := 0) (by omega) (by omega)).mpr hh)
      refine lv_iconst (v := 0) hx hb dX5_put_70 (by decide) ?_
      refine va_zast hx hb hK hP hD hS 8 2 rfl rfl (vp_in_nI (n := (lc + j)) (N := 49) (by omega) (by omega)) dX5_put_71 (fun H locs hP hD hS => ?_)
      rw [show vp_nar .boolean 0 = 0 from by decide] at hP hD
      rw [pk_cl (x := (nI (lc + j))) (lc + j) (rfl) (by omega)] at hP hD
      have hP : va_P D vwCl (zWM cI cJ cZ h th (n, L) ((zcb kt pt), (zcb km pm), (zcb kl pl)) mc (run, (wc + 1), (upd nu wc (nI k)), (lc + j), (upd (zale le lc (L k) j) (lc + j) (zlt (L k) (zsz (L k) - 1 - j))), (upd (zaaf af lc j) (lc + j) 0), tr, ms, cl, tm) (co, yn, yh, pa) ++ R) _ := hP
      have hD : va_D (zAb B) (zWM cI cJ cZ h th (n, L) ((zcb kt pt), (zcb km pm), (zcb kl pl)) mc (run, (wc + 1), (upd nu wc (nI k)), (lc + j), (upd (zale le lc (L k) j) (lc + j) (zlt (L k) (zsz (L k) - 1 - j))), (upd (zaaf af lc j) (lc + j) 0), tr, ms, cl, tm) (co, yn, yh, pa) ++ R) := hD
      refine lv_aload_n hx hb dX5_put_72 rfl (lv_at hl 1 rfl) ?_
      refine lv_dup hx hb dX5_put_73 rfl ?_
      refine va_get (ci := 5) (v := .int (nI (lc + j))) (C := RX5) (T := TX5) (N := 20) hx hb hts hinX5 hown hK hP 0 rfl rfl 10 (by decide) (hts (.fieldLink RX5 103 "TypingTutorModel" "letters" "I") (List.mem_of_getElem? (i := 5) rfl)) (fun _ h9 => h9) rfl dX5_put_74 ?_
      refine lv_iconst (v := 1) hx hb dX5_put_77 (by decide) ?_
      refine lv_iadd hx hb dX5_put_78 ?_
      refine lv_topi (fun v_4 ev_4 => ?_)
      obtain rfl : v_4 = (nI ((lc + j) + 1)) := ev_4.trans (nI_add (lc + j) 1)
      refine va_put (ci := 5) (v := .int (nI ((lc + j) + 1))) (ty := .int) (C := RX5) (T := TX5) (N := 20) hx hb hts hinX5 tyX5 tyX5_ok nmX5 hown hK hP hD hS 0 rfl rfl 10 (by decide) (hts (.fieldLink RX5 103 "TypingTutorModel" "letters" "I") (List.mem_of_getElem? (i := 5) rfl)) (fun _ h9 => h9) rfl (by decide +kernel) rfl rfl (Nat.le_of_ble_eq_true rfl) dX5_put_79 (fun H locs hP hD hS => ?_)
      have hP : va_P D vwCl (zWM cI cJ cZ h th (n, L) ((zcb kt pt), (zcb km pm), (zcb kl pl)) mc (run, (wc + 1), (upd nu wc (nI k)), ((lc + j) + 1), (upd (zale le lc (L k) j) (lc + j) (zlt (L k) (zsz (L k) - 1 - j))), (upd (zaaf af lc j) (lc + j) 0), tr, ms, cl, tm) (co, yn, yh, pa) ++ R) _ := hP
      have hD : va_D (zAb B) (zWM cI cJ cZ h th (n, L) ((zcb kt pt), (zcb km pm), (zcb kl pl)) mc (run, (wc + 1), (upd nu wc (nI k)), ((lc + j) + 1), (upd (zale le lc (L k) j) (lc + j) (zlt (L k) (zsz (L k) - 1 - j))), (upd (zaaf af lc j) (lc + j) 0), tr, ms, cl, tm) (co, yn, yh, pa) ++ R) := hD
      refine lv_iinc (v := (nI (j + 1))) (lv' := [(2, .int (nI (j + 1))), (0, .ref (h 0)), (1, .int (nI k))]) hx hb dX5_put_82 hl (k := 0) rfl (nI_add j 1) (by decide) rfl (fun ls hl => ?_)
      refine lv_goto (tgt := 22) hx hb dX5_put_85 (by decide) ?_
      have hP : va_P D vwCl (zWM cI cJ cZ h th (n, L) ((zcb kt pt), (zcb km pm), (zcb kl pl)) mc (run, (wc + 1), (upd nu wc (nI k)), (lc + (j + 1)), (zale le lc (L k) (j + 1)), (zaaf af lc (j + 1)), tr, ms, cl, tm) (co, yn, yh, pa) ++ R) H := by rw [zale_s, zaaf_s, if_neg c_3]; exact hP
      have hD : va_D (zAb B) (zWM cI cJ cZ h th (n, L) ((zcb kt pt), (zcb km pm), (zcb kl pl)) mc (run, (wc + 1), (upd nu wc (nI k)), (lc + (j + 1)), (zale le lc (L k) (j + 1)), (zaaf af lc (j + 1)), tr, ms, cl, tm) (co, yn, yh, pa) ++ R) := by rw [zale_s, zaaf_s, if_neg c_3]; exact hD
      exact ih (j + 1) (by omega) (by omega) _ _ _ hP hD hS (lv_sub hl [0, 1, 2] rfl)
    · skip
      have c_3 : j = 0 := (nI_eq (a := j) (b := 0) (by omega) (by omega)).mp c_3
      refine lv_iconst (v := 1) hx hb dX5_put_66 (by decide) ?_
      refine lv_goto (tgt := 71) hx hb dX5_put_67 (by decide) ?_
      refine va_zast hx hb hK hP hD hS 8 2 rfl rfl (vp_in_nI (n := (lc + j)) (N := 49) (by omega) (by omega)) dX5_put_71 (fun H locs hP hD hS => ?_)
      rw [show vp_nar .boolean 1 = 1 from by decide] at hP hD
      rw [pk_cl (x := (nI (lc + j))) (lc + j) (rfl) (by omega)] at hP hD
      have hP : va_P D vwCl (zWM cI cJ cZ h th (n, L) ((zcb kt pt), (zcb km pm), (zcb kl pl)) mc (run, (wc + 1), (upd nu wc (nI k)), (lc + j), (upd (zale le lc (L k) j) (lc + j) (zlt (L k) (zsz (L k) - 1 - j))), (upd (zaaf af lc j) (lc + j) 1), tr, ms, cl, tm) (co, yn, yh, pa) ++ R) _ := hP
      have hD : va_D (zAb B) (zWM cI cJ cZ h th (n, L) ((zcb kt pt), (zcb km pm), (zcb kl pl)) mc (run, (wc + 1), (upd nu wc (nI k)), (lc + j), (upd (zale le lc (L k) j) (lc + j) (zlt (L k) (zsz (L k) - 1 - j))), (upd (zaaf af lc j) (lc + j) 1), tr, ms, cl, tm) (co, yn, yh, pa) ++ R) := hD
      refine lv_aload_n hx hb dX5_put_72 rfl (lv_at hl 1 rfl) ?_
      refine lv_dup hx hb dX5_put_73 rfl ?_
      refine va_get (ci := 5) (v := .int (nI (lc + j))) (C := RX5) (T := TX5) (N := 20) hx hb hts hinX5 hown hK hP 0 rfl rfl 10 (by decide) (hts (.fieldLink RX5 103 "TypingTutorModel" "letters" "I") (List.mem_of_getElem? (i := 5) rfl)) (fun _ h9 => h9) rfl dX5_put_74 ?_
      refine lv_iconst (v := 1) hx hb dX5_put_77 (by decide) ?_
      refine lv_iadd hx hb dX5_put_78 ?_
      refine lv_topi (fun v_5 ev_5 => ?_)
      obtain rfl : v_5 = (nI ((lc + j) + 1)) := ev_5.trans (nI_add (lc + j) 1)
      refine va_put (ci := 5) (v := .int (nI ((lc + j) + 1))) (ty := .int) (C := RX5) (T := TX5) (N := 20) hx hb hts hinX5 tyX5 tyX5_ok nmX5 hown hK hP hD hS 0 rfl rfl 10 (by decide) (hts (.fieldLink RX5 103 "TypingTutorModel" "letters" "I") (List.mem_of_getElem? (i := 5) rfl)) (fun _ h9 => h9) rfl (by decide +kernel) rfl rfl (Nat.le_of_ble_eq_true rfl) dX5_put_79 (fun H locs hP hD hS => ?_)
      have hP : va_P D vwCl (zWM cI cJ cZ h th (n, L) ((zcb kt pt), (zcb km pm), (zcb kl pl)) mc (run, (wc + 1), (upd nu wc (nI k)), ((lc + j) + 1), (upd (zale le lc (L k) j) (lc + j) (zlt (L k) (zsz (L k) - 1 - j))), (upd (zaaf af lc j) (lc + j) 1), tr, ms, cl, tm) (co, yn, yh, pa) ++ R) _ := hP
      have hD : va_D (zAb B) (zWM cI cJ cZ h th (n, L) ((zcb kt pt), (zcb km pm), (zcb kl pl)) mc (run, (wc + 1), (upd nu wc (nI k)), ((lc + j) + 1), (upd (zale le lc (L k) j) (lc + j) (zlt (L k) (zsz (L k) - 1 - j))), (upd (zaaf af lc j) (lc + j) 1), tr, ms, cl, tm) (co, yn, yh, pa) ++ R) := hD
      refine lv_iinc (v := (nI (j + 1))) (lv' := [(2, .int (nI (j + 1))), (0, .ref (h 0)), (1, .int (nI k))]) hx hb dX5_put_82 hl (k := 0) rfl (nI_add j 1) (by decide) rfl (fun ls hl => ?_)
      refine lv_goto (tgt := 22) hx hb dX5_put_85 (by decide) ?_
      have hP : va_P D vwCl (zWM cI cJ cZ h th (n, L) ((zcb kt pt), (zcb km pm), (zcb kl pl)) mc (run, (wc + 1), (upd nu wc (nI k)), (lc + (j + 1)), (zale le lc (L k) (j + 1)), (zaaf af lc (j + 1)), tr, ms, cl, tm) (co, yn, yh, pa) ++ R) H := by rw [zale_s, zaaf_s, if_pos c_3]; exact hP
      have hD : va_D (zAb B) (zWM cI cJ cZ h th (n, L) ((zcb kt pt), (zcb km pm), (zcb kl pl)) mc (run, (wc + 1), (upd nu wc (nI k)), (lc + (j + 1)), (zale le lc (L k) (j + 1)), (zaaf af lc (j + 1)), tr, ms, cl, tm) (co, yn, yh, pa) ++ R) := by rw [zale_s, zaaf_s, if_pos c_3]; exact hD
      exact ih (j + 1) (by omega) (by omega) _ _ _ hP hD hS (lv_sub hl [0, 1, 2] rfl)

set_option maxHeartbeats 1000000 in
set_option maxRecDepth 100000 in
theorem c_X5_begin {l : Launch} {B kr kp : Nat} {D : va_G} {cI cJ cZ : ClassId} {h : Nat → Nat} {R : va_W} {th : Int32} {n : Nat} {L : Nat → Int64} {kt : Nat → Int32} {km : Nat → Int32} {kl : Nat → Int32} {pt : Nat → Int32} {pm : Nat → Int32} {pl : Nat → Int32} {nu : Nat → Int32} {le : Nat → Int32} {af : Nat → Int32} {run : Bool} {wc : Nat} {lc : Nat} {tr : Nat} {cl : Nat} {tm : Nat} {ms : Nat} {co : Nat} {yn : Nat} {yh : Nat → Int32} {pa : Int32} {mc : Nat → Int32}     : Met l yX5_begin wsX5_begin ({ frames := 0, cells := 0, slots := 0, locals := 0 }) (zPc B kr kp D (zTy cI cJ cZ) (zWM cI cJ cZ h th (n, L) ((zcb kt pt), (zcb km pm), (zcb kl pl)) mc (run, wc, nu, lc, le, af, tr, ms, cl, tm) (co, yn, yh, pa) ++ R) [.ref (h 0)]) (zQv B D (zWM cI cJ cZ h th (n, L) ((zcb kt pt), (zcb km pm), (zcb kl pl)) mc (true, 0, nu, 0, le, af, 0, 0, 0, 0) (co, yn, yh, pa) ++ R)) 0 0 (zAb B) := by
  refine Met.ofW (cc := cX5_begin) (maxL := 1) (ret := none) (by decide) rfl ?_
  intro p e s m args below meth c s₁ B0 hml hv
  obtain ⟨rfl, hP, hD, hK, hE, hB⟩ := hv
  have hx := B0.exec
  have hb := B0.bytes
  have hr := B0.returns
  have hts := atoms_spec (ws := wsX5_begin) B0.pre
  have hown : s.vm.findClass RX5 = some m.cls := findClass_of_methodNamed B0.named
  have hlocks := B0.notSynchronized
  have hA : ∀ q : Nat, s.heap.size ≤ q → zAb B q := fun q hq => Nat.le_trans hB hq
  have hS : va_S (zAb B) s.heap s.heap [] := va_S.rf
  have hl := lv_entry ([.ref (h 0)]) (n := 1) (Nat.le_of_ble_eq_true rfl)
  rw [lg_entry_eq]
  generalize (lg_sl ([.ref (h 0)]) ++ List.replicate (1 - (lg_sl ([.ref (h 0)])).length) Slot.unset).toArray = ls at hl ⊢
  have hl : lv_has ls 1 [(0, .ref (h 0))] := hl
  have hinX5 : ∀ w ∈ wsX50, w ∈ wsX5_begin := fun _ h => List.mem_cons_of_mem _ (List.mem_append_right _ h)
  have hP : va_P D vwCl (zWM cI cJ cZ h th (n, L) ((zcb kt pt), (zcb km pm), (zcb kl pl)) mc (run, wc, nu, lc, le, af, tr, ms, cl, tm) (co, yn, yh, pa) ++ R) s.heap := hP
  have hD : va_D (zAb B) (zWM cI cJ cZ h th (n, L) ((zcb kt pt), (zcb km pm), (zcb kl pl)) mc (run, wc, nu, lc, le, af, tr, ms, cl, tm) (co, yn, yh, pa) ++ R) := hD
  refine lv_aload_n hx hb dX5_begin_0 rfl (lv_at hl 0 rfl) ?_
  refine lv_iconst (v := 1) hx hb dX5_begin_1 (by decide) ?_
  refine va_put (ci := 5) (v := .int 1) (ty := .boolean) (C := RX5) (T := TX5) (N := 20) hx hb hts hinX5 tyX5 tyX5_ok nmX5 hown hK hP hD hS 0 rfl rfl 7 (by decide) (hts (.fieldLink RX5 106 "TypingTutorModel" "isOpen" "Z") (List.mem_of_getElem? (i := 1) rfl)) (fun _ h9 => h9) rfl (by decide +kernel) rfl rfl (Nat.le_of_ble_eq_true rfl) dX5_begin_2 (fun H locs hP hD hS => ?_)
  have hP : va_P D vwCl (zWM cI cJ cZ h th (n, L) ((zcb kt pt), (zcb km pm), (zcb kl pl)) mc (true, wc, nu, lc, le, af, tr, ms, cl, tm) (co, yn, yh, pa) ++ R) _ := hP
  have hD : va_D (zAb B) (zWM cI cJ cZ h th (n, L) ((zcb kt pt), (zcb km pm), (zcb kl pl)) mc (true, wc, nu, lc, le, af, tr, ms, cl, tm) (co, yn, yh, pa) ++ R) := hD
  refine lv_aload_n hx hb dX5_begin_5 rfl (lv_at hl 0 rfl) ?_
  refine lv_iconst (v := 0) hx hb dX5_begin_6 (by decide) ?_
  refine va_put (ci := 5) (v := .int 0) (ty := .int) (C := RX5) (T := TX5) (N := 20) hx hb hts hinX5 tyX5 tyX5_ok nmX5 hown hK hP hD hS 0 rfl rfl 8 (by decide) (hts (.fieldLink RX5 100 "TypingTutorModel" "lessonWords" "I") (List.mem_of_getElem? (i := 2) rfl)) (fun _ h9 => h9) rfl (by decide +kernel) rfl rfl (Nat.le_of_ble_eq_true rfl) dX5_begin_7 (fun H locs hP hD hS => ?_)
  have hP : va_P D vwCl (zWM cI cJ cZ h th (n, L) ((zcb kt pt), (zcb km pm), (zcb kl pl)) mc (true, 0, nu, lc, le, af, tr, ms, cl, tm) (co, yn, yh, pa) ++ R) _ := hP
  have hD : va_D (zAb B) (zWM cI cJ cZ h th (n, L) ((zcb kt pt), (zcb km pm), (zcb kl pl)) mc (true, 0, nu, lc, le, af, tr, ms, cl, tm) (co, yn, yh, pa) ++ R) := hD
  refine lv_aload_n hx hb dX5_begin_10 rfl (lv_at hl 0 rfl) ?_
  refine lv_iconst (v := 0) hx hb dX5_begin_11 (by decide) ?_
  refine va_put (ci := 5) (v := .int 0) (ty := .int) (C := RX5) (T := TX5) (N := 20) hx hb hts hinX5 tyX5 tyX5_ok nmX5 hown hK hP hD hS 0 rfl rfl 10 (by decide) (hts (.fieldLink RX5 103 "TypingTutorModel" "letters" "I") (List.mem_of_getElem? (i := 3) rfl)) (fun _ h9 => h9) rfl (by decide +kernel) rfl rfl (Nat.le_of_ble_eq_true rfl) dX5_begin_12 (fun H locs hP hD hS => ?_)
  have hP : va_P D vwCl (zWM cI cJ cZ h th (n, L) ((zcb kt pt), (zcb km pm), (zcb kl pl)) mc (true, 0, nu, 0, le, af, tr, ms, cl, tm) (co, yn, yh, pa) ++ R) _ := hP
  have hD : va_D (zAb B) (zWM cI cJ cZ h th (n, L) ((zcb kt pt), (zcb km pm), (zcb kl pl)) mc (true, 0, nu, 0, le, af, tr, ms, cl, tm) (co, yn, yh, pa) ++ R) := hD
  refine lv_aload_n hx hb dX5_begin_15 rfl (lv_at hl 0 rfl) ?_
  refine lv_iconst (v := 0) hx hb dX5_begin_16 (by decide) ?_
  refine va_put (ci := 5) (v := .int 0) (ty := .int) (C := RX5) (T := TX5) (N := 20) hx hb hts hinX5 tyX5 tyX5_ok nmX5 hown hK hP hD hS 0 rfl rfl 13 (by decide) (hts (.fieldLink RX5 110 "TypingTutorModel" "at" "I") (List.mem_of_getElem? (i := 4) rfl)) (fun _ h9 => h9) rfl (by decide +kernel) rfl rfl (Nat.le_of_ble_eq_true rfl) dX5_begin_17 (fun H locs hP hD hS => ?_)
  have hP : va_P D vwCl (zWM cI cJ cZ h th (n, L) ((zcb kt pt), (zcb km pm), (zcb kl pl)) mc (true, 0, nu, 0, le, af, 0, ms, cl, tm) (co, yn, yh, pa) ++ R) _ := hP
  have hD : va_D (zAb B) (zWM cI cJ cZ h th (n, L) ((zcb kt pt), (zcb km pm), (zcb kl pl)) mc (true, 0, nu, 0, le, af, 0, ms, cl, tm) (co, yn, yh, pa) ++ R) := hD
  refine lv_aload_n hx hb dX5_begin_20 rfl (lv_at hl 0 rfl) ?_
  refine lv_iconst (v := 0) hx hb dX5_begin_21 (by decide) ?_
  refine va_put (ci := 5) (v := .int 0) (ty := .int) (C := RX5) (T := TX5) (N := 20) hx hb hts hinX5 tyX5 tyX5_ok nmX5 hown hK hP hD hS 0 rfl rfl 14 (by decide) (hts (.fieldLink RX5 113 "TypingTutorModel" "slips" "I") (List.mem_of_getElem? (i := 5) rfl)) (fun _ h9 => h9) rfl (by decide +kernel) rfl rfl (Nat.le_of_ble_eq_true rfl) dX5_begin_22 (fun H locs hP hD hS => ?_)
  have hP : va_P D vwCl (zWM cI cJ cZ h th (n, L) ((zcb kt pt), (zcb km pm), (zcb kl pl)) mc (true, 0, nu, 0, le, af, 0, 0, cl, tm) (co, yn, yh, pa) ++ R) _ := hP
  have hD : va_D (zAb B) (zWM cI cJ cZ h th (n, L) ((zcb kt pt), (zcb km pm), (zcb kl pl)) mc (true, 0, nu, 0, le, af, 0, 0, cl, tm) (co, yn, yh, pa) ++ R) := hD
  refine lv_aload_n hx hb dX5_begin_25 rfl (lv_at hl 0 rfl) ?_
  refine lv_iconst (v := 0) hx hb dX5_begin_26 (by decide) ?_
  refine va_put (ci := 5) (v := .int 0) (ty := .int) (C := RX5) (T := TX5) (N := 20) hx hb hts hinX5 tyX5 tyX5_ok nmX5 hown hK hP hD hS 0 rfl rfl 15 (by decide) (hts (.fieldLink RX5 116 "TypingTutorModel" "clean" "I") (List.mem_of_getElem? (i := 6) rfl)) (fun _ h9 => h9) rfl (by decide +kernel) rfl rfl (Nat.le_of_ble_eq_true rfl) dX5_begin_27 (fun H locs hP hD hS => ?_)
  have hP : va_P D vwCl (zWM cI cJ cZ h th (n, L) ((zcb kt pt), (zcb km pm), (zcb kl pl)) mc (true, 0, nu, 0, le, af, 0, 0, 0, tm) (co, yn, yh, pa) ++ R) _ := hP
  have hD : va_D (zAb B) (zWM cI cJ cZ h th (n, L) ((zcb kt pt), (zcb km pm), (zcb kl pl)) mc (true, 0, nu, 0, le, af, 0, 0, 0, tm) (co, yn, yh, pa) ++ R) := hD
  refine lv_aload_n hx hb dX5_begin_30 rfl (lv_at hl 0 rfl) ?_
  refine lv_iconst (v := 0) hx hb dX5_begin_31 (by decide) ?_
  refine va_put (ci := 5) (v := .int 0) (ty := .int) (C := RX5) (T := TX5) (N := 20) hx hb hts hinX5 tyX5 tyX5_ok nmX5 hown hK hP hD hS 0 rfl rfl 16 (by decide) (hts (.fieldLink RX5 119 "TypingTutorModel" "time" "I") (List.mem_of_getElem? (i := 7) rfl)) (fun _ h9 => h9) rfl (by decide +kernel) rfl rfl (Nat.le_of_ble_eq_true rfl) dX5_begin_32 (fun H locs hP hD hS => ?_)
  have hP : va_P D vwCl (zWM cI cJ cZ h th (n, L) ((zcb kt pt), (zcb km pm), (zcb kl pl)) mc (true, 0, nu, 0, le, af, 0, 0, 0, 0) (co, yn, yh, pa) ++ R) _ := hP
  have hD : va_D (zAb B) (zWM cI cJ cZ h th (n, L) ((zcb kt pt), (zcb km pm), (zcb kl pl)) mc (true, 0, nu, 0, le, af, 0, 0, 0, 0) (co, yn, yh, pa) ++ R) := hD
  exact W.vret hx hb hr (fun t ht hW => ⟨⟨(), rfl, trivial, by rw [ht]; exact hP, hD⟩, hS.F ht⟩) hS.2.2 dX5_begin_35

set_option maxHeartbeats 1000000 in
set_option maxRecDepth 100000 in
theorem c_X5_hasPair {l : Launch} {B kr kp : Nat} {D : va_G} {cI cJ cZ : ClassId} {h : Nat → Nat} {R : va_W} {th : Int32} {n : Nat} {L : Nat → Int64} {kt : Nat → Int32} {km : Nat → Int32} {kl : Nat → Int32} {pt : Nat → Int32} {pm : Nat → Int32} {pl : Nat → Int32} {nu : Nat → Int32} {le : Nat → Int32} {af : Nat → Int32} {run : Bool} {wc : Nat} {lc : Nat} {tr : Nat} {cl : Nat} {tm : Nat} {ms : Nat} {co : Nat} {yn : Nat} {yh : Nat → Int32} {pa : Int32} {mc : Nat → Int32} {x : Int32} {y : Int32}   (hlc : lc ≤ 48) : Met l yX5_hasPair wsX5_hasPair ({ frames := 0, cells := 0, slots := 0, locals := 0 }) (zPc B kr kp D (zTy cI cJ cZ) (zWM cI cJ cZ h th (n, L) ((zcb kt pt), (zcb km pm), (zcb kl pl)) mc (run, wc, nu, lc, le, af, tr, ms, cl, tm) (co, yn, yh, pa) ++ R) [.ref (h 0), .int x, .int y]) (zQi B D (zWM cI cJ cZ h th (n, L) ((zcb kt pt), (zcb km pm), (zcb kl pl)) mc (run, wc, nu, lc, le, af, tr, ms, cl, tm) (co, yn, yh, pa) ++ R) (zb (zhp af le x y (lc - 1)))) 0 0 (zAb B) := by
  refine Met.ofW (cc := cX5_hasPair) (maxL := 5) (ret := (some .boolean)) (by decide) rfl ?_
  intro p e s m args below meth c s₁ B0 hml hv
  obtain ⟨rfl, hP, hD, hK, hE, hB⟩ := hv
  have hx := B0.exec
  have hb := B0.bytes
  have hr := B0.returns
  have hts := atoms_spec (ws := wsX5_hasPair) B0.pre
  have hown : s.vm.findClass RX5 = some m.cls := findClass_of_methodNamed B0.named
  have hlocks := B0.notSynchronized
  have hA : ∀ q : Nat, s.heap.size ≤ q → zAb B q := fun q hq => Nat.le_trans hB hq
  have hS : va_S (zAb B) s.heap s.heap [] := va_S.rf
  have hl := lv_entry ([.ref (h 0), .int x, .int y]) (n := 5) (Nat.le_of_ble_eq_true rfl)
  rw [lg_entry_eq]
  generalize (lg_sl ([.ref (h 0), .int x, .int y]) ++ List.replicate (5 - (lg_sl ([.ref (h 0), .int x, .int y])).length) Slot.unset).toArray = ls at hl ⊢
  have hl : lv_has ls 5 [(0, .ref (h 0)), (1, .int x), (2, .int y)] := hl
  have hinX5 : ∀ w ∈ wsX50, w ∈ wsX5_hasPair := fun _ h => List.mem_cons_of_mem _ (List.mem_append_right _ h)
  have hP : va_P D vwCl (zWM cI cJ cZ h th (n, L) ((zcb kt pt), (zcb km pm), (zcb kl pl)) mc (run, wc, nu, lc, le, af, tr, ms, cl, tm) (co, yn, yh, pa) ++ R) s.heap := hP
  have hD : va_D (zAb B) (zWM cI cJ cZ h th (n, L) ((zcb kt pt), (zcb km pm), (zcb kl pl)) mc (run, wc, nu, lc, le, af, tr, ms, cl, tm) (co, yn, yh, pa) ++ R) := hD
  refine lv_iconst (v := 0) hx hb dX5_hasPair_0 (by decide) ?_
  refine lv_istore_n (lv' := [(3, .int 0), (0, .ref (h 0)), (1, .int x), (2, .int y)]) hx hb dX5_hasPair_1 rfl hl (by decide) rfl (fun ls hl => ?_)
  refine lv_iconst (v := 1) hx hb dX5_hasPair_2 (by decide) ?_
  refine lv_istore (lv' := [(4, .int 1), (3, .int 0), (0, .ref (h 0)), (1, .int x), (2, .int y)]) hx hb dX5_hasPair_3 hl (by decide) rfl (fun ls hl => ?_)
  refine zloop (σ := (Nat) × (Bool)) (nL := 5) (fun x9 => (zWM cI cJ cZ h th (n, L) ((zcb kt pt), (zcb km pm), (zcb kl pl)) mc (run, wc, nu, lc, le, af, tr, ms, cl, tm) (co, yn, yh, pa) ++ R)) (fun x9 => [(4, .int (nI (x9.1 + 1))), (3, .int (zb x9.2)), (0, .ref (h 0)), (1, .int x), (2, .int y)]) (fun x9 => []) (fun x9 => (x9.1 ≤ lc - 1) ∧ x9.2 = zhp af le x y x9.1) (fun x9 => lc - x9.1) ?_ (0, false) (⟨by omega, rfl⟩) _ _ _ hP hD hS (lv_sub hl [0, 1, 2, 3, 4] rfl)
  rintro ⟨j, b⟩ hI ih H locs ls hP hD hS hl
  try dsimp only at hI ih hP hD hS hl ⊢
  obtain ⟨hI, rfl⟩ := hI
  refine lv_iload hx hb dX5_hasPair_5 (lv_at hl 0 rfl) ?_
  refine lv_aload_n hx hb dX5_hasPair_7 rfl (lv_at hl 2 rfl) ?_
  refine va_get (ci := 5) (v := .int (nI lc)) (C := RX5) (T := TX5) (N := 20) hx hb hts hinX5 hown hK hP 0 rfl rfl 10 (by decide) (hts (.fieldLink RX5 103 "TypingTutorModel" "letters" "I") (List.mem_of_getElem? (i := 1) rfl)) (fun _ h9 => h9) rfl dX5_hasPair_8 ?_
  refine lv_icmp_ge (tgt := 64) hx hb dX5_hasPair_11 (by decide) (fun c_1 => ?_) (fun c_1 => ?_)
  · skip
    have c_1 : lc ≤ (j + 1) := (nI_leI (a := lc) (b := (j + 1)) (by omega) (by omega)).mp c_1
    obtain rfl : lc - 1 = j := by omega
    refine lv_iload_n hx hb dX5_hasPair_64 rfl (lv_at hl 1 rfl) ?_
    exact W.zret (v := (zb (zhp af le x y (lc - 1)))) hx hb hr zb_nar (fun t ht hW => ⟨⟨_, (), rfl, rfl, by rw [ht]; exact hP, hD⟩, hS.F ht⟩) hS.2.2 dX5_hasPair_65
  · skip
    have c_1 : ¬ lc ≤ (j + 1) := fun hh => c_1 ((nI_leI (a := lc) (b := (j + 1)) (by omega) (by omega)).mpr hh)
    refine lv_iload_n hx hb dX5_hasPair_14 rfl (lv_at hl 1 rfl) ?_
    refine lv_if_ne (tgt := 52) hx hb dX5_hasPair_15 (by decide) (fun c_2 => ?_) (fun c_2 => ?_)
    · skip
      have c_2 : (zhp af le x y j) = true := zb_n c_2
      refine lv_iconst (v := 1) hx hb dX5_hasPair_52 (by decide) ?_
      refine lv_goto (tgt := 57) hx hb dX5_hasPair_53 (by decide) ?_
      refine lv_istore_n (lv' := [(3, .int 1), (4, .int (nI (j + 1))), (0, .ref (h 0)), (1, .int x), (2, .int y)]) hx hb dX5_hasPair_57 rfl hl (by decide) rfl (fun ls hl => ?_)
      refine lv_iinc (v := (nI ((j + 1) + 1))) (lv' := [(4, .int (nI ((j + 1) + 1))), (3, .int 1), (0, .ref (h 0)), (1, .int x), (2, .int y)]) hx hb dX5_hasPair_58 hl (k := 1) rfl (nI_add (j + 1) 1) (by decide) rfl (fun ls hl => ?_)
      refine lv_goto (tgt := 5) hx hb dX5_hasPair_61 (by decide) ?_
      exact ih (j + 1, true) (⟨by omega, (by rw [zhp, c_2, Bool.true_or])⟩) (by omega) _ _ _ hP hD hS (lv_sub hl [0, 1, 2, 3, 4] rfl)
    · skip
      have c_2 : (zhp af le x y j) = false := zb_0 c_2
      refine lv_aload_n hx hb dX5_hasPair_18 rfl (lv_at hl 2 rfl) ?_
      refine va_get (ci := 5) (v := .ref (h 8)) (C := RX5) (T := TX5) (N := 20) hx hb hts hinX5 hown hK hP 0 rfl rfl 12 (by decide) (hts (.fieldLink RX5 32 "TypingTutorModel" "areFirst" "[Z") (List.mem_of_getElem? (i := 2) rfl)) (fun _ h9 => h9) rfl dX5_hasPair_19 ?_
      refine lv_iload hx hb dX5_hasPair_22 (lv_at hl 0 rfl) ?_
      refine va_zald hx hb hK hP 8 2 rfl rfl (vp_in_nI (n := (j + 1)) (N := 49) (by omega) (by omega)) dX5_hasPair_24 ?_
      rw [pk_cl (x := (nI (j + 1))) (j + 1) (rfl) (by omega)]
      refine lv_if_ne (tgt := 56) hx hb dX5_hasPair_25 (by decide) (fun c_3 => ?_) (fun c_3 => ?_)
      · skip
        refine lv_iconst (v := 0) hx hb dX5_hasPair_56 (by decide) ?_
        refine lv_istore_n (lv' := [(3, .int 0), (4, .int (nI (j + 1))), (0, .ref (h 0)), (1, .int x), (2, .int y)]) hx hb dX5_hasPair_57 rfl hl (by decide) rfl (fun ls hl => ?_)
        refine lv_iinc (v := (nI ((j + 1) + 1))) (lv' := [(4, .int (nI ((j + 1) + 1))), (3, .int 0), (0, .ref (h 0)), (1, .int x), (2, .int y)]) hx hb dX5_hasPair_58 hl (k := 1) rfl (nI_add (j + 1) 1) (by decide) rfl (fun ls hl => ?_)
        refine lv_goto (tgt := 5) hx hb dX5_hasPair_61 (by decide) ?_
        exact ih (j + 1, false) (⟨by omega, (by rw [zhp, c_2, Bool.false_or, decide_eq_false c_3, Bool.false_and])⟩) (by omega) _ _ _ hP hD hS (lv_sub hl [0, 1, 2, 3, 4] rfl)
      · skip
        refine lv_aload_n hx hb dX5_hasPair_28 rfl (lv_at hl 2 rfl) ?_
        refine va_get (ci := 5) (v := .ref (h 7)) (C := RX5) (T := TX5) (N := 20) hx hb hts hinX5 hown hK hP 0 rfl rfl 11 (by decide) (hts (.fieldLink RX5 29 "TypingTutorModel" "text" "[I") (List.mem_of_getElem? (i := 3) rfl)) (fun _ h9 => h9) rfl dX5_hasPair_29 ?_
        refine lv_iload hx hb dX5_hasPair_32 (lv_at hl 0 rfl) ?_
        refine lv_iconst (v := 1) hx hb dX5_hasPair_34 (by decide) ?_
        refine lv_isub hx hb dX5_hasPair_35 ?_
        refine lv_topi (fun v_4 ev_4 => ?_)
        obtain rfl : v_4 = (nI j) := ev_4.trans ((pk_sub (a := (j + 1)) (b := 1) (by omega)).trans (congrArg nI (by omega)))
        refine va_iald hx hb hK hP 7 0 rfl rfl (vp_in_nI (n := j) (N := 48) (by omega) (by omega)) dX5_hasPair_36 ?_
        rw [pk_cl (x := (nI j)) j (rfl) (by omega)]
        refine lv_iload_n hx hb dX5_hasPair_37 rfl (lv_at hl 3 rfl) ?_
        refine lv_icmp_ne (tgt := 56) hx hb dX5_hasPair_38 (by decide) (fun c_5 => ?_) (fun c_5 => ?_)
        · skip
          refine lv_iconst (v := 0) hx hb dX5_hasPair_56 (by decide) ?_
          refine lv_istore_n (lv' := [(3, .int 0), (4, .int (nI (j + 1))), (0, .ref (h 0)), (1, .int x), (2, .int y)]) hx hb dX5_hasPair_57 rfl hl (by decide) rfl (fun ls hl => ?_)
          refine lv_iinc (v := (nI ((j + 1) + 1))) (lv' := [(4, .int (nI ((j + 1) + 1))), (3, .int 0), (0, .ref (h 0)), (1, .int x), (2, .int y)]) hx hb dX5_hasPair_58 hl (k := 1) rfl (nI_add (j + 1) 1) (by decide) rfl (fun ls hl => ?_)
          refine lv_goto (tgt := 5) hx hb dX5_hasPair_61 (by decide) ?_
          exact ih (j + 1, false) (⟨by omega, (by rw [zhp, c_2, Bool.false_or, decide_eq_false c_5, Bool.false_and, Bool.and_false])⟩) (by omega) _ _ _ hP hD hS (lv_sub hl [0, 1, 2, 3, 4] rfl)
        · skip
          refine lv_aload_n hx hb dX5_hasPair_41 rfl (lv_at hl 2 rfl) ?_
          refine va_get (ci := 5) (v := .ref (h 7)) (C := RX5) (T := TX5) (N := 20) hx hb hts hinX5 hown hK hP 0 rfl rfl 11 (by decide) (hts (.fieldLink RX5 29 "TypingTutorModel" "text" "[I") (List.mem_of_getElem? (i := 3) rfl)) (fun _ h9 => h9) rfl dX5_hasPair_42 ?_
          refine lv_iload hx hb dX5_hasPair_45 (lv_at hl 0 rfl) ?_
          refine va_iald hx hb hK hP 7 0 rfl rfl (vp_in_nI (n := (j + 1)) (N := 48) (by omega) (by omega)) dX5_hasPair_47 ?_
          rw [pk_cl (x := (nI (j + 1))) (j + 1) (rfl) (by omega)]
          refine lv_iload_n hx hb dX5_hasPair_48 rfl (lv_at hl 4 rfl) ?_
          refine lv_icmp_ne (tgt := 56) hx hb dX5_hasPair_49 (by decide) (fun c_6 => ?_) (fun c_6 => ?_)
          · skip
            refine lv_iconst (v := 0) hx hb dX5_hasPair_56 (by decide) ?_
            refine lv_istore_n (lv' := [(3, .int 0), (4, .int (nI (j + 1))), (0, .ref (h 0)), (1, .int x), (2, .int y)]) hx hb dX5_hasPair_57 rfl hl (by decide) rfl (fun ls hl => ?_)
            refine lv_iinc (v := (nI ((j + 1) + 1))) (lv' := [(4, .int (nI ((j + 1) + 1))), (3, .int 0), (0, .ref (h 0)), (1, .int x), (2, .int y)]) hx hb dX5_hasPair_58 hl (k := 1) rfl (nI_add (j + 1) 1) (by decide) rfl (fun ls hl => ?_)
            refine lv_goto (tgt := 5) hx hb dX5_hasPair_61 (by decide) ?_
            exact ih (j + 1, false) (⟨by omega, (by rw [zhp, c_2, Bool.false_or, decide_eq_false c_6, Bool.and_false, Bool.and_false])⟩) (by omega) _ _ _ hP hD hS (lv_sub hl [0, 1, 2, 3, 4] rfl)
          · skip
            refine lv_iconst (v := 1) hx hb dX5_hasPair_52 (by decide) ?_
            refine lv_goto (tgt := 57) hx hb dX5_hasPair_53 (by decide) ?_
            refine lv_istore_n (lv' := [(3, .int 1), (4, .int (nI (j + 1))), (0, .ref (h 0)), (1, .int x), (2, .int y)]) hx hb dX5_hasPair_57 rfl hl (by decide) rfl (fun ls hl => ?_)
            refine lv_iinc (v := (nI ((j + 1) + 1))) (lv' := [(4, .int (nI ((j + 1) + 1))), (3, .int 1), (0, .ref (h 0)), (1, .int x), (2, .int y)]) hx hb dX5_hasPair_58 hl (k := 1) rfl (nI_add (j + 1) 1) (by decide) rfl (fun ls hl => ?_)
            refine lv_goto (tgt := 5) hx hb dX5_hasPair_61 (by decide) ?_
            exact ih (j + 1, true) (⟨by omega, (by rw [zhp, c_2, Bool.false_or, decide_eq_true c_3, decide_eq_true c_5, decide_eq_true c_6]; rfl)⟩) (by omega) _ _ _ hP hD hS (lv_sub hl [0, 1, 2, 3, 4] rfl)

set_option maxHeartbeats 1000000 in
set_option maxRecDepth 100000 in
theorem c_X5_isChosen {l : Launch} {B kr kp : Nat} {D : va_G} {cI cJ cZ : ClassId} {h : Nat → Nat} {R : va_W} {th : Int32} {n : Nat} {L : Nat → Int64} {kt : Nat → Int32} {km : Nat → Int32} {kl : Nat → Int32} {pt : Nat → Int32} {pm : Nat → Int32} {pl : Nat → Int32} {nu : Nat → Int32} {le : Nat → Int32} {af : Nat → Int32} {run : Bool} {wc : Nat} {lc : Nat} {tr : Nat} {cl : Nat} {tm : Nat} {ms : Nat} {co : Nat} {yn : Nat} {yh : Nat → Int32} {pa : Int32} {mc : Nat → Int32} {x : Int32}   (hwc : wc ≤ 6) : Met l yX5_isChosen wsX5_isChosen ({ frames := 0, cells := 0, slots := 0, locals := 0 }) (zPc B kr kp D (zTy cI cJ cZ) (zWM cI cJ cZ h th (n, L) ((zcb kt pt), (zcb km pm), (zcb kl pl)) mc (run, wc, nu, lc, le, af, tr, ms, cl, tm) (co, yn, yh, pa) ++ R) [.ref (h 0), .int x]) (zQi B D (zWM cI cJ cZ h th (n, L) ((zcb kt pt), (zcb km pm), (zcb kl pl)) mc (run, wc, nu, lc, le, af, tr, ms, cl, tm) (co, yn, yh, pa) ++ R) (zb (zhw nu x wc))) 0 0 (zAb B) := by
  refine Met.ofW (cc := cX5_isChosen) (maxL := 4) (ret := (some .boolean)) (by decide) rfl ?_
  intro p e s m args below meth c s₁ B0 hml hv
  obtain ⟨rfl, hP, hD, hK, hE, hB⟩ := hv
  have hx := B0.exec
  have hb := B0.bytes
  have hr := B0.returns
  have hts := atoms_spec (ws := wsX5_isChosen) B0.pre
  have hown : s.vm.findClass RX5 = some m.cls := findClass_of_methodNamed B0.named
  have hlocks := B0.notSynchronized
  have hA : ∀ q : Nat, s.heap.size ≤ q → zAb B q := fun q hq => Nat.le_trans hB hq
  have hS : va_S (zAb B) s.heap s.heap [] := va_S.rf
  have hl := lv_entry ([.ref (h 0), .int x]) (n := 4) (Nat.le_of_ble_eq_true rfl)
  rw [lg_entry_eq]
  generalize (lg_sl ([.ref (h 0), .int x]) ++ List.replicate (4 - (lg_sl ([.ref (h 0), .int x])).length) Slot.unset).toArray = ls at hl ⊢
  have hl : lv_has ls 4 [(0, .ref (h 0)), (1, .int x)] := hl
  have hinX5 : ∀ w ∈ wsX50, w ∈ wsX5_isChosen := fun _ h => List.mem_cons_of_mem _ (List.mem_append_right _ h)
  have hP : va_P D vwCl (zWM cI cJ cZ h th (n, L) ((zcb kt pt), (zcb km pm), (zcb kl pl)) mc (run, wc, nu, lc, le, af, tr, ms, cl, tm) (co, yn, yh, pa) ++ R) s.heap := hP
  have hD : va_D (zAb B) (zWM cI cJ cZ h th (n, L) ((zcb kt pt), (zcb km pm), (zcb kl pl)) mc (run, wc, nu, lc, le, af, tr, ms, cl, tm) (co, yn, yh, pa) ++ R) := hD
  refine lv_iconst (v := 0) hx hb dX5_isChosen_0 (by decide) ?_
  refine lv_istore_n (lv' := [(2, .int 0), (0, .ref (h 0)), (1, .int x)]) hx hb dX5_isChosen_1 rfl hl (by decide) rfl (fun ls hl => ?_)
  refine lv_iconst (v := 0) hx hb dX5_isChosen_2 (by decide) ?_
  refine lv_istore_n (lv' := [(3, .int 0), (2, .int 0), (0, .ref (h 0)), (1, .int x)]) hx hb dX5_isChosen_3 rfl hl (by decide) rfl (fun ls hl => ?_)
  refine zloop (σ := (Nat) × (Bool)) (nL := 4) (fun x9 => (zWM cI cJ cZ h th (n, L) ((zcb kt pt), (zcb km pm), (zcb kl pl)) mc (run, wc, nu, lc, le, af, tr, ms, cl, tm) (co, yn, yh, pa) ++ R)) (fun x9 => [(3, .int (nI x9.1)), (2, .int (zb x9.2)), (0, .ref (h 0)), (1, .int x)]) (fun x9 => []) (fun x9 => (x9.1 ≤ wc) ∧ x9.2 = zhw nu x x9.1) (fun x9 => wc - x9.1) ?_ (0, false) (⟨by omega, rfl⟩) _ _ _ hP hD hS (lv_sub hl [0, 1, 2, 3] rfl)
  rintro ⟨j, b⟩ hI ih H locs ls hP hD hS hl
  try dsimp only at hI ih hP hD hS hl ⊢
  obtain ⟨hI, rfl⟩ := hI
  refine lv_iload_n hx hb dX5_isChosen_4 rfl (lv_at hl 0 rfl) ?_
  refine lv_aload_n hx hb dX5_isChosen_5 rfl (lv_at hl 2 rfl) ?_
  refine va_get (ci := 5) (v := .int (nI wc)) (C := RX5) (T := TX5) (N := 20) hx hb hts hinX5 hown hK hP 0 rfl rfl 8 (by decide) (hts (.fieldLink RX5 100 "TypingTutorModel" "lessonWords" "I") (List.mem_of_getElem? (i := 1) rfl)) (fun _ h9 => h9) rfl dX5_isChosen_6 ?_
  refine lv_icmp_ge (tgt := 38) hx hb dX5_isChosen_9 (by decide) (fun c_1 => ?_) (fun c_1 => ?_)
  · skip
    have c_1 : wc ≤ j := (nI_leI (a := wc) (b := j) (by omega) (by omega)).mp c_1
    obtain rfl : wc = j := by omega
    refine lv_iload_n hx hb dX5_isChosen_38 rfl (lv_at hl 1 rfl) ?_
    exact W.zret (v := (zb (zhw nu x wc))) hx hb hr zb_nar (fun t ht hW => ⟨⟨_, (), rfl, rfl, by rw [ht]; exact hP, hD⟩, hS.F ht⟩) hS.2.2 dX5_isChosen_39
  · skip
    have c_1 : ¬ wc ≤ j := fun hh => c_1 ((nI_leI (a := wc) (b := j) (by omega) (by omega)).mpr hh)
    refine lv_iload_n hx hb dX5_isChosen_12 rfl (lv_at hl 1 rfl) ?_
    refine lv_if_ne (tgt := 26) hx hb dX5_isChosen_13 (by decide) (fun c_2 => ?_) (fun c_2 => ?_)
    · skip
      have c_2 : (zhw nu x j) = true := zb_n c_2
      refine lv_iconst (v := 1) hx hb dX5_isChosen_26 (by decide) ?_
      refine lv_goto (tgt := 31) hx hb dX5_isChosen_27 (by decide) ?_
      refine lv_istore_n (lv' := [(2, .int 1), (3, .int (nI j)), (0, .ref (h 0)), (1, .int x)]) hx hb dX5_isChosen_31 rfl hl (by decide) rfl (fun ls hl => ?_)
      refine lv_iinc (v := (nI (j + 1))) (lv' := [(3, .int (nI (j + 1))), (2, .int 1), (0, .ref (h 0)), (1, .int x)]) hx hb dX5_isChosen_32 hl (k := 1) rfl (nI_add j 1) (by decide) rfl (fun ls hl => ?_)
      refine lv_goto (tgt := 4) hx hb dX5_isChosen_35 (by decide) ?_
      exact ih (j + 1, true) (⟨by omega, (by rw [zhw, c_2, Bool.true_or])⟩) (by omega) _ _ _ hP hD hS (lv_sub hl [0, 1, 2, 3] rfl)
    · skip
      have c_2 : (zhw nu x j) = false := zb_0 c_2
      refine lv_aload_n hx hb dX5_isChosen_16 rfl (lv_at hl 2 rfl) ?_
      refine va_get (ci := 5) (v := .ref (h 6)) (C := RX5) (T := TX5) (N := 20) hx hb hts hinX5 hown hK hP 0 rfl rfl 9 (by decide) (hts (.fieldLink RX5 26 "TypingTutorModel" "chosen" "[I") (List.mem_of_getElem? (i := 2) rfl)) (fun _ h9 => h9) rfl dX5_isChosen_17 ?_
      refine lv_iload_n hx hb dX5_isChosen_20 rfl (lv_at hl 0 rfl) ?_
      refine va_iald hx hb hK hP 6 0 rfl rfl (vp_in_nI (n := j) (N := 6) (by omega) (by omega)) dX5_isChosen_21 ?_
      rw [pk_cl (x := (nI j)) j (rfl) (by omega)]
      refine lv_iload_n hx hb dX5_isChosen_22 rfl (lv_at hl 3 rfl) ?_
      refine lv_icmp_ne (tgt := 30) hx hb dX5_isChosen_23 (by decide) (fun c_3 => ?_) (fun c_3 => ?_)
      · skip
        refine lv_iconst (v := 0) hx hb dX5_isChosen_30 (by decide) ?_
        refine lv_istore_n (lv' := [(2, .int 0), (3, .int (nI j)), (0, .ref (h 0)), (1, .int x)]) hx hb dX5_isChosen_31 rfl hl (by decide) rfl (fun ls hl => ?_)
        refine lv_iinc (v := (nI (j + 1))) (lv' := [(3, .int (nI (j + 1))), (2, .int 0), (0, .ref (h 0)), (1, .int x)]) hx hb dX5_isChosen_32 hl (k := 1) rfl (nI_add j 1) (by decide) rfl (fun ls hl => ?_)
        refine lv_goto (tgt := 4) hx hb dX5_isChosen_35 (by decide) ?_
        exact ih (j + 1, false) (⟨by omega, (by rw [zhw, c_2, Bool.false_or, decide_eq_false c_3])⟩) (by omega) _ _ _ hP hD hS (lv_sub hl [0, 1, 2, 3] rfl)
      · skip
        refine lv_iconst (v := 1) hx hb dX5_isChosen_26 (by decide) ?_
        refine lv_goto (tgt := 31) hx hb dX5_isChosen_27 (by decide) ?_
        refine lv_istore_n (lv' := [(2, .int 1), (3, .int (nI j)), (0, .ref (h 0)), (1, .int x)]) hx hb dX5_isChosen_31 rfl hl (by decide) rfl (fun ls hl => ?_)
        refine lv_iinc (v := (nI (j + 1))) (lv' := [(3, .int (nI (j + 1))), (2, .int 1), (0, .ref (h 0)), (1, .int x)]) hx hb dX5_isChosen_32 hl (k := 1) rfl (nI_add j 1) (by decide) rfl (fun ls hl => ?_)
        refine lv_goto (tgt := 4) hx hb dX5_isChosen_35 (by decide) ?_
        exact ih (j + 1, true) (⟨by omega, (by rw [zhw, c_2, Bool.false_or, decide_eq_true c_3])⟩) (by omega) _ _ _ hP hD hS (lv_sub hl [0, 1, 2, 3] rfl)

set_option maxHeartbeats 1000000 in
set_option maxRecDepth 100000 in
theorem c_X5_known_k0 {l : Launch} {B kr kp : Nat} {D : va_G} {cI cJ cZ : ClassId} {h : Nat → Nat} {R : va_W} {th : Int32} {n : Nat} {L : Nat → Int64} {kt : Nat → Int32} {km : Nat → Int32} {kl : Nat → Int32} {pt : Nat → Int32} {pm : Nat → Int32} {pl : Nat → Int32} {nu : Nat → Int32} {le : Nat → Int32} {af : Nat → Int32} {run : Bool} {wc : Nat} {lc : Nat} {tr : Nat} {cl : Nat} {tm : Nat} {ms : Nat} {co : Nat} {yn : Nat} {yh : Nat → Int32} {pa : Int32} {mc : Nat → Int32} {k : Nat}   (hk : k < 26) : Met l yX5_known wsX5_known ({ frames := 0, cells := 0, slots := 0, locals := 0 }) (zPc B kr kp D (zTy cI cJ cZ) (zWM cI cJ cZ h th (n, L) ((zcb kt pt), (zcb km pm), (zcb kl pl)) mc (run, wc, nu, lc, le, af, tr, ms, cl, tm) (co, yn, yh, pa) ++ R) [.ref (h 0), .int (nI k), .int 0]) (zQi B D (zWM cI cJ cZ h th (n, L) ((zcb kt pt), (zcb km pm), (zcb kl pl)) mc (run, wc, nu, lc, le, af, tr, ms, cl, tm) (co, yn, yh, pa) ++ R) (kt k)) 0 0 (zAb B) := by
  refine Met.ofW (cc := cX5_known) (maxL := 3) (ret := (some .int)) (by decide) rfl ?_
  intro p e s m args below meth c s₁ B0 hml hv
  obtain ⟨rfl, hP, hD, hK, hE, hB⟩ := hv
  have hx := B0.exec
  have hb := B0.bytes
  have hr := B0.returns
  have hts := atoms_spec (ws := wsX5_known) B0.pre
  have hown : s.vm.findClass RX5 = some m.cls := findClass_of_methodNamed B0.named
  have hlocks := B0.notSynchronized
  have hA : ∀ q : Nat, s.heap.size ≤ q → zAb B q := fun q hq => Nat.le_trans hB hq
  have hS : va_S (zAb B) s.heap s.heap [] := va_S.rf
  have hl := lv_entry ([.ref (h 0), .int (nI k), .int 0]) (n := 3) (Nat.le_of_ble_eq_true rfl)
  rw [lg_entry_eq]
  generalize (lg_sl ([.ref (h 0), .int (nI k), .int 0]) ++ List.replicate (3 - (lg_sl ([.ref (h 0), .int (nI k), .int 0])).length) Slot.unset).toArray = ls at hl ⊢
  have hl : lv_has ls 3 [(0, .ref (h 0)), (1, .int (nI k)), (2, .int 0)] := hl
  have hinX5 : ∀ w ∈ wsX50, w ∈ wsX5_known := fun _ h => List.mem_cons_of_mem _ (List.mem_append_right _ h)
  have hP : va_P D vwCl (zWM cI cJ cZ h th (n, L) ((zcb kt pt), (zcb km pm), (zcb kl pl)) mc (run, wc, nu, lc, le, af, tr, ms, cl, tm) (co, yn, yh, pa) ++ R) s.heap := hP
  have hD : va_D (zAb B) (zWM cI cJ cZ h th (n, L) ((zcb kt pt), (zcb km pm), (zcb kl pl)) mc (run, wc, nu, lc, le, af, tr, ms, cl, tm) (co, yn, yh, pa) ++ R) := hD
  refine lv_iload_n hx hb dX5_known_0 rfl (lv_at hl 2 rfl) ?_
  refine lv_if_ne (tgt := 13) hx hb dX5_known_1 (by decide) (fun c_1 => ?_) (fun c_1 => ?_)
  · skip
    exfalso; first | omega | (revert c_1; decide) | (exact absurd rfl c_1) | simp_all
  · skip
    refine lv_aload_n hx hb dX5_known_4 rfl (lv_at hl 0 rfl) ?_
    refine va_get (ci := 5) (v := .ref (h 2)) (C := RX5) (T := TX5) (N := 20) hx hb hts hinX5 hown hK hP 0 rfl rfl 3 (by decide) (hts (.fieldLink RX5 13 "TypingTutorModel" "tries" "[I") (List.mem_of_getElem? (i := 1) rfl)) (fun _ h9 => h9) rfl dX5_known_5 ?_
    refine lv_iload_n hx hb dX5_known_8 rfl (lv_at hl 1 rfl) ?_
    refine va_iald hx hb hK hP 2 0 rfl rfl (vp_in_nI (n := k) (N := 702) (by omega) (by omega)) dX5_known_9 ?_
    rw [pk_cl (x := (nI k)) k (rfl) (by omega)]
    rw [show ((zcb kt pt), (zcb km pm), (zcb kl pl)).1 k = kt k from zcb_k (by omega)]
    refine lv_goto (tgt := 33) hx hb dX5_known_10 (by decide) ?_
    exact W.iret (v := (kt k)) hx hb hr (fun t ht hW => ⟨⟨_, (), rfl, rfl, by rw [ht]; exact hP, hD⟩, hS.F ht⟩) hS.2.2 dX5_known_33

set_option maxHeartbeats 1000000 in
set_option maxRecDepth 100000 in
theorem c_X5_known_k1 {l : Launch} {B kr kp : Nat} {D : va_G} {cI cJ cZ : ClassId} {h : Nat → Nat} {R : va_W} {th : Int32} {n : Nat} {L : Nat → Int64} {kt : Nat → Int32} {km : Nat → Int32} {kl : Nat → Int32} {pt : Nat → Int32} {pm : Nat → Int32} {pl : Nat → Int32} {nu : Nat → Int32} {le : Nat → Int32} {af : Nat → Int32} {run : Bool} {wc : Nat} {lc : Nat} {tr : Nat} {cl : Nat} {tm : Nat} {ms : Nat} {co : Nat} {yn : Nat} {yh : Nat → Int32} {pa : Int32} {mc : Nat → Int32} {k : Nat}   (hk : k < 26) : Met l yX5_known wsX5_known ({ frames := 0, cells := 0, slots := 0, locals := 0 }) (zPc B kr kp D (zTy cI cJ cZ) (zWM cI cJ cZ h th (n, L) ((zcb kt pt), (zcb km pm), (zcb kl pl)) mc (run, wc, nu, lc, le, af, tr, ms, cl, tm) (co, yn, yh, pa) ++ R) [.ref (h 0), .int (nI k), .int 1]) (zQi B D (zWM cI cJ cZ h th (n, L) ((zcb kt pt), (zcb km pm), (zcb kl pl)) mc (run, wc, nu, lc, le, af, tr, ms, cl, tm) (co, yn, yh, pa) ++ R) (km k)) 0 0 (zAb B) := by
  refine Met.ofW (cc := cX5_known) (maxL := 3) (ret := (some .int)) (by decide) rfl ?_
  intro p e s m args below meth c s₁ B0 hml hv
  obtain ⟨rfl, hP, hD, hK, hE, hB⟩ := hv
  have hx := B0.exec
  have hb := B0.bytes
  have hr := B0.returns
  have hts := atoms_spec (ws := wsX5_known) B0.pre
  have hown : s.vm.findClass RX5 = some m.cls := findClass_of_methodNamed B0.named
  have hlocks := B0.notSynchronized
  have hA : ∀ q : Nat, s.heap.size ≤ q → zAb B q := fun q hq => Nat.le_trans hB hq
  have hS : va_S (zAb B) s.heap s.heap [] := va_S.rf
  have hl := lv_entry ([.ref (h 0), .int (nI k), .int 1]) (n := 3) (Nat.le_of_ble_eq_true rfl)
  rw [lg_entry_eq]
  generalize (lg_sl ([.ref (h 0), .int (nI k), .int 1]) ++ List.replicate (3 - (lg_sl ([.ref (h 0), .int (nI k), .int 1])).length) Slot.unset).toArray = ls at hl ⊢
  have hl : lv_has ls 3 [(0, .ref (h 0)), (1, .int (nI k)), (2, .int 1)] := hl
  have hinX5 : ∀ w ∈ wsX50, w ∈ wsX5_known := fun _ h => List.mem_cons_of_mem _ (List.mem_append_right _ h)
  have hP : va_P D vwCl (zWM cI cJ cZ h th (n, L) ((zcb kt pt), (zcb km pm), (zcb kl pl)) mc (run, wc, nu, lc, le, af, tr, ms, cl, tm) (co, yn, yh, pa) ++ R) s.heap := hP
  have hD : va_D (zAb B) (zWM cI cJ cZ h th (n, L) ((zcb kt pt), (zcb km pm), (zcb kl pl)) mc (run, wc, nu, lc, le, af, tr, ms, cl, tm) (co, yn, yh, pa) ++ R) := hD
  refine lv_iload_n hx hb dX5_known_0 rfl (lv_at hl 2 rfl) ?_
  refine lv_if_ne (tgt := 13) hx hb dX5_known_1 (by decide) (fun c_1 => ?_) (fun c_1 => ?_)
  · skip
    refine lv_iload_n hx hb dX5_known_13 rfl (lv_at hl 2 rfl) ?_
    refine lv_iconst (v := 1) hx hb dX5_known_14 (by decide) ?_
    refine lv_icmp_ne (tgt := 27) hx hb dX5_known_15 (by decide) (fun c_2 => ?_) (fun c_2 => ?_)
    · skip
      exfalso; first | omega | (revert c_2; decide) | (exact absurd rfl c_2) | simp_all
    · skip
      refine lv_aload_n hx hb dX5_known_18 rfl (lv_at hl 0 rfl) ?_
      refine va_get (ci := 5) (v := .ref (h 3)) (C := RX5) (T := TX5) (N := 20) hx hb hts hinX5 hown hK hP 0 rfl rfl 4 (by decide) (hts (.fieldLink RX5 17 "TypingTutorModel" "misses" "[I") (List.mem_of_getElem? (i := 2) rfl)) (fun _ h9 => h9) rfl dX5_known_19 ?_
      refine lv_iload_n hx hb dX5_known_22 rfl (lv_at hl 1 rfl) ?_
      refine va_iald hx hb hK hP 3 0 rfl rfl (vp_in_nI (n := k) (N := 702) (by omega) (by omega)) dX5_known_23 ?_
      rw [pk_cl (x := (nI k)) k (rfl) (by omega)]
      rw [show ((zcb kt pt), (zcb km pm), (zcb kl pl)).2.1 k = km k from zcb_k (by omega)]
      refine lv_goto (tgt := 33) hx hb dX5_known_24 (by decide) ?_
      exact W.iret (v := (km k)) hx hb hr (fun t ht hW => ⟨⟨_, (), rfl, rfl, by rw [ht]; exact hP, hD⟩, hS.F ht⟩) hS.2.2 dX5_known_33
  · skip
    exfalso; first | omega | (revert c_1; decide) | (exact absurd rfl c_1) | simp_all

set_option maxHeartbeats 1000000 in
set_option maxRecDepth 100000 in
theorem c_X5_known_k2 {l : Launch} {B kr kp : Nat} {D : va_G} {cI cJ cZ : ClassId} {h : Nat → Nat} {R : va_W} {th : Int32} {n : Nat} {L : Nat → Int64} {kt : Nat → Int32} {km : Nat → Int32} {kl : Nat → Int32} {pt : Nat → Int32} {pm : Nat → Int32} {pl : Nat → Int32} {nu : Nat → Int32} {le : Nat → Int32} {af : Nat → Int32} {run : Bool} {wc : Nat} {lc : Nat} {tr : Nat} {cl : Nat} {tm : Nat} {ms : Nat} {co : Nat} {yn : Nat} {yh : Nat → Int32} {pa : Int32} {mc : Nat → Int32} {k : Nat}   (hk : k < 26) : Met l yX5_known wsX5_known ({ frames := 0, cells := 0, slots := 0, locals := 0 }) (zPc B kr kp D (zTy cI cJ cZ) (zWM cI cJ cZ h th (n, L) ((zcb kt pt), (zcb km pm), (zcb kl pl)) mc (run, wc, nu, lc, le, af, tr, ms, cl, tm) (co, yn, yh, pa) ++ R) [.ref (h 0), .int (nI k), .int 2]) (zQi B D (zWM cI cJ cZ h th (n, L) ((zcb kt pt), (zcb km pm), (zcb kl pl)) mc (run, wc, nu, lc, le, af, tr, ms, cl, tm) (co, yn, yh, pa) ++ R) (kl k)) 0 0 (zAb B) := by
  refine Met.ofW (cc := cX5_known) (maxL := 3) (ret := (some .int)) (by decide) rfl ?_
  intro p e s m args below meth c s₁ B0 hml hv
  obtain ⟨rfl, hP, hD, hK, hE, hB⟩ := hv
  have hx := B0.exec
  have hb := B0.bytes
  have hr := B0.returns
  have hts := atoms_spec (ws := wsX5_known) B0.pre
  have hown : s.vm.findClass RX5 = some m.cls := findClass_of_methodNamed B0.named
  have hlocks := B0.notSynchronized
  have hA : ∀ q : Nat, s.heap.size ≤ q → zAb B q := fun q hq => Nat.le_trans hB hq
  have hS : va_S (zAb B) s.heap s.heap [] := va_S.rf
  have hl := lv_entry ([.ref (h 0), .int (nI k), .int 2]) (n := 3) (Nat.le_of_ble_eq_true rfl)
  rw [lg_entry_eq]
  generalize (lg_sl ([.ref (h 0), .int (nI k), .int 2]) ++ List.replicate (3 - (lg_sl ([.ref (h 0), .int (nI k), .int 2])).length) Slot.unset).toArray = ls at hl ⊢
  have hl : lv_has ls 3 [(0, .ref (h 0)), (1, .int (nI k)), (2, .int 2)] := hl
  have hinX5 : ∀ w ∈ wsX50, w ∈ wsX5_known := fun _ h => List.mem_cons_of_mem _ (List.mem_append_right _ h)
  have hP : va_P D vwCl (zWM cI cJ cZ h th (n, L) ((zcb kt pt), (zcb km pm), (zcb kl pl)) mc (run, wc, nu, lc, le, af, tr, ms, cl, tm) (co, yn, yh, pa) ++ R) s.heap := hP
  have hD : va_D (zAb B) (zWM cI cJ cZ h th (n, L) ((zcb kt pt), (zcb km pm), (zcb kl pl)) mc (run, wc, nu, lc, le, af, tr, ms, cl, tm) (co, yn, yh, pa) ++ R) := hD
  refine lv_iload_n hx hb dX5_known_0 rfl (lv_at hl 2 rfl) ?_
  refine lv_if_ne (tgt := 13) hx hb dX5_known_1 (by decide) (fun c_1 => ?_) (fun c_1 => ?_)
  · skip
    refine lv_iload_n hx hb dX5_known_13 rfl (lv_at hl 2 rfl) ?_
    refine lv_iconst (v := 1) hx hb dX5_known_14 (by decide) ?_
    refine lv_icmp_ne (tgt := 27) hx hb dX5_known_15 (by decide) (fun c_2 => ?_) (fun c_2 => ?_)
    · skip
      refine lv_aload_n hx hb dX5_known_27 rfl (lv_at hl 0 rfl) ?_
      refine va_get (ci := 5) (v := .ref (h 4)) (C := RX5) (T := TX5) (N := 20) hx hb hts hinX5 hown hK hP 0 rfl rfl 5 (by decide) (hts (.fieldLink RX5 20 "TypingTutorModel" "levels" "[I") (List.mem_of_getElem? (i := 3) rfl)) (fun _ h9 => h9) rfl dX5_known_28 ?_
      refine lv_iload_n hx hb dX5_known_31 rfl (lv_at hl 1 rfl) ?_
      refine va_iald hx hb hK hP 4 0 rfl rfl (vp_in_nI (n := k) (N := 702) (by omega) (by omega)) dX5_known_32 ?_
      rw [pk_cl (x := (nI k)) k (rfl) (by omega)]
      rw [show ((zcb kt pt), (zcb km pm), (zcb kl pl)).2.2 k = kl k from zcb_k (by omega)]
      exact W.iret (v := (kl k)) hx hb hr (fun t ht hW => ⟨⟨_, (), rfl, rfl, by rw [ht]; exact hP, hD⟩, hS.F ht⟩) hS.2.2 dX5_known_33
    · skip
      exfalso; first | omega | (revert c_2; decide) | (exact absurd rfl c_2) | simp_all
  · skip
    exfalso; first | omega | (revert c_1; decide) | (exact absurd rfl c_1) | simp_all

set_option maxHeartbeats 1000000 in
set_option maxRecDepth 100000 in
theorem c_X5_learn_k {l : Launch} {B kr kp : Nat} {D : va_G} {cI cJ cZ : ClassId} {h : Nat → Nat} {R : va_W} {th : Int32} {n : Nat} {L : Nat → Int64} {kt : Nat → Int32} {km : Nat → Int32} {kl : Nat → Int32} {pt : Nat → Int32} {pm : Nat → Int32} {pl : Nat → Int32} {nu : Nat → Int32} {le : Nat → Int32} {af : Nat → Int32} {run : Bool} {wc : Nat} {lc : Nat} {tr : Nat} {cl : Nat} {tm : Nat} {ms : Nat} {co : Nat} {yn : Nat} {yh : Nat → Int32} {pa : Int32} {mc : Nat → Int32} {k : Nat} {b : Bool} {g : Int32}   (hk : k < 26) : Met l yX5_learn wsX5_learn ({ frames := 0, cells := 0, slots := 0, locals := 0 }) (zPc B kr kp D (zTy cI cJ cZ) (zWM cI cJ cZ h th (n, L) ((zcb kt pt), (zcb km pm), (zcb kl pl)) mc (run, wc, nu, lc, le, af, tr, ms, cl, tm) (co, yn, yh, pa) ++ R) [.ref (h 0), .int (nI k), .int (zb b), .int g]) (zQv B D (zWM cI cJ cZ h th (n, L) ((zcb (zkt kt k) pt), (zcb (zkm b km k) pm), (zcb (upd kl k (zlv (kl k) g)) pl)) mc (run, wc, nu, lc, le, af, tr, ms, cl, tm) (co, yn, yh, pa) ++ R)) 0 0 (zAb B) := by
  cases b with
  | true =>
    refine Met.ofW (cc := cX5_learn) (maxL := 4) (ret := none) (by decide) rfl ?_
    intro p e s m args below meth c s₁ B0 hml hv
    obtain ⟨rfl, hP, hD, hK, hE, hB⟩ := hv
    have hx := B0.exec
    have hb := B0.bytes
    have hr := B0.returns
    have hts := atoms_spec (ws := wsX5_learn) B0.pre
    have hown : s.vm.findClass RX5 = some m.cls := findClass_of_methodNamed B0.named
    have hlocks := B0.notSynchronized
    have hA : ∀ q : Nat, s.heap.size ≤ q → zAb B q := fun q hq => Nat.le_trans hB hq
    have hS : va_S (zAb B) s.heap s.heap [] := va_S.rf
    have hl := lv_entry ([.ref (h 0), .int (nI k), .int (zb true), .int g]) (n := 4) (Nat.le_of_ble_eq_true rfl)
    rw [lg_entry_eq]
    generalize (lg_sl ([.ref (h 0), .int (nI k), .int (zb true), .int g]) ++ List.replicate (4 - (lg_sl ([.ref (h 0), .int (nI k), .int (zb true), .int g])).length) Slot.unset).toArray = ls at hl ⊢
    have hl : lv_has ls 4 [(0, .ref (h 0)), (1, .int (nI k)), (2, .int 1), (3, .int g)] := hl
    have hinX5 : ∀ w ∈ wsX50, w ∈ wsX5_learn := fun _ h => List.mem_cons_of_mem _ (List.mem_append_right _ h)
    have hP : va_P D vwCl (zWM cI cJ cZ h th (n, L) ((zcb kt pt), (zcb km pm), (zcb kl pl)) mc (run, wc, nu, lc, le, af, tr, ms, cl, tm) (co, yn, yh, pa) ++ R) s.heap := hP
    have hD : va_D (zAb B) (zWM cI cJ cZ h th (n, L) ((zcb kt pt), (zcb km pm), (zcb kl pl)) mc (run, wc, nu, lc, le, af, tr, ms, cl, tm) (co, yn, yh, pa) ++ R) := hD
    refine lv_aload_n hx hb dX5_learn_0 rfl (lv_at hl 0 rfl) ?_
    refine va_get (ci := 5) (v := .ref (h 2)) (C := RX5) (T := TX5) (N := 20) hx hb hts hinX5 hown hK hP 0 rfl rfl 3 (by decide) (hts (.fieldLink RX5 13 "TypingTutorModel" "tries" "[I") (List.mem_of_getElem? (i := 1) rfl)) (fun _ h9 => h9) rfl dX5_learn_1 ?_
    refine lv_iload_n hx hb dX5_learn_4 rfl (lv_at hl 1 rfl) ?_
    refine lv_dup2_11 hx hb dX5_learn_5 rfl rfl ?_
    refine va_iald hx hb hK hP 2 0 rfl rfl (vp_in_nI (n := k) (N := 702) (by omega) (by omega)) dX5_learn_6 ?_
    rw [pk_cl (x := (nI k)) k (rfl) (by omega)]
    rw [show ((zcb kt pt), (zcb km pm), (zcb kl pl)).1 k = kt k from zcb_k (by omega)]
    refine lv_iconst (v := 1) hx hb dX5_learn_7 (by decide) ?_
    refine lv_iadd hx hb dX5_learn_8 ?_
    refine va_iast hx hb hK hP hD hS 2 0 rfl rfl (vp_in_nI (n := k) (N := 702) (by omega) (by omega)) dX5_learn_9 (fun H locs hP hD hS => ?_)
    rw [pk_cl (x := (nI k)) k (rfl) (by omega)] at hP hD
    have hP : va_P D vwCl (zWM cI cJ cZ h th (n, L) ((upd (zcb kt pt) k ((kt k) + 1)), (zcb km pm), (zcb kl pl)) mc (run, wc, nu, lc, le, af, tr, ms, cl, tm) (co, yn, yh, pa) ++ R) _ := hP
    have hD : va_D (zAb B) (zWM cI cJ cZ h th (n, L) ((upd (zcb kt pt) k ((kt k) + 1)), (zcb km pm), (zcb kl pl)) mc (run, wc, nu, lc, le, af, tr, ms, cl, tm) (co, yn, yh, pa) ++ R) := hD
    rw [zcb_uk (k := k) (by omega)] at hP hD
    have hP : va_P D vwCl (zWM cI cJ cZ h th (n, L) ((zcb (upd kt k ((kt k) + 1)) pt), (zcb km pm), (zcb kl pl)) mc (run, wc, nu, lc, le, af, tr, ms, cl, tm) (co, yn, yh, pa) ++ R) _ := hP
    have hD : va_D (zAb B) (zWM cI cJ cZ h th (n, L) ((zcb (upd kt k ((kt k) + 1)) pt), (zcb km pm), (zcb kl pl)) mc (run, wc, nu, lc, le, af, tr, ms, cl, tm) (co, yn, yh, pa) ++ R) := hD
    refine lv_aload_n hx hb dX5_learn_10 rfl (lv_at hl 0 rfl) ?_
    refine va_get (ci := 5) (v := .ref (h 3)) (C := RX5) (T := TX5) (N := 20) hx hb hts hinX5 hown hK hP 0 rfl rfl 4 (by decide) (hts (.fieldLink RX5 17 "TypingTutorModel" "misses" "[I") (List.mem_of_getElem? (i := 2) rfl)) (fun _ h9 => h9) rfl dX5_learn_11 ?_
    refine lv_iload_n hx hb dX5_learn_14 rfl (lv_at hl 1 rfl) ?_
    refine lv_dup2_11 hx hb dX5_learn_15 rfl rfl ?_
    refine va_iald hx hb hK hP 3 0 rfl rfl (vp_in_nI (n := k) (N := 702) (by omega) (by omega)) dX5_learn_16 ?_
    rw [pk_cl (x := (nI k)) k (rfl) (by omega)]
    rw [show ((zcb (upd kt k ((kt k) + 1)) pt), (zcb km pm), (zcb kl pl)).2.1 k = km k from zcb_k (by omega)]
    refine lv_iload_n hx hb dX5_learn_17 rfl (lv_at hl 2 rfl) ?_
    refine lv_if_eq (tgt := 25) hx hb dX5_learn_18 (by decide) (fun c_1 => ?_) (fun c_1 => ?_)
    · skip
      exfalso; first | omega | (revert c_1; decide) | (exact absurd rfl c_1) | simp_all
    · skip
      refine lv_iconst (v := 0) hx hb dX5_learn_21 (by decide) ?_
      refine lv_goto (tgt := 26) hx hb dX5_learn_22 (by decide) ?_
      refine lv_iadd hx hb dX5_learn_26 ?_
      refine va_iast hx hb hK hP hD hS 3 0 rfl rfl (vp_in_nI (n := k) (N := 702) (by omega) (by omega)) dX5_learn_27 (fun H locs hP hD hS => ?_)
      rw [pk_cl (x := (nI k)) k (rfl) (by omega)] at hP hD
      have hP : va_P D vwCl (zWM cI cJ cZ h th (n, L) ((zcb (upd kt k ((kt k) + 1)) pt), (upd (zcb km pm) k ((km k) + 0)), (zcb kl pl)) mc (run, wc, nu, lc, le, af, tr, ms, cl, tm) (co, yn, yh, pa) ++ R) _ := hP
      have hD : va_D (zAb B) (zWM cI cJ cZ h th (n, L) ((zcb (upd kt k ((kt k) + 1)) pt), (upd (zcb km pm) k ((km k) + 0)), (zcb kl pl)) mc (run, wc, nu, lc, le, af, tr, ms, cl, tm) (co, yn, yh, pa) ++ R) := hD
      rw [zcb_uk (k := k) (by omega)] at hP hD
      have hP : va_P D vwCl (zWM cI cJ cZ h th (n, L) ((zcb (upd kt k ((kt k) + 1)) pt), (zcb (upd km k ((km k) + 0)) pm), (zcb kl pl)) mc (run, wc, nu, lc, le, af, tr, ms, cl, tm) (co, yn, yh, pa) ++ R) _ := hP
      have hD : va_D (zAb B) (zWM cI cJ cZ h th (n, L) ((zcb (upd kt k ((kt k) + 1)) pt), (zcb (upd km k ((km k) + 0)) pm), (zcb kl pl)) mc (run, wc, nu, lc, le, af, tr, ms, cl, tm) (co, yn, yh, pa) ++ R) := hD
      refine lv_aload_n hx hb dX5_learn_28 rfl (lv_at hl 0 rfl) ?_
      refine va_get (ci := 5) (v := .ref (h 4)) (C := RX5) (T := TX5) (N := 20) hx hb hts hinX5 hown hK hP 0 rfl rfl 5 (by decide) (hts (.fieldLink RX5 20 "TypingTutorModel" "levels" "[I") (List.mem_of_getElem? (i := 3) rfl)) (fun _ h9 => h9) rfl dX5_learn_29 ?_
      refine lv_iload_n hx hb dX5_learn_32 rfl (lv_at hl 1 rfl) ?_
      refine lv_dup2_11 hx hb dX5_learn_33 rfl rfl ?_
      refine va_iald hx hb hK hP 4 0 rfl rfl (vp_in_nI (n := k) (N := 702) (by omega) (by omega)) dX5_learn_34 ?_
      rw [pk_cl (x := (nI k)) k (rfl) (by omega)]
      rw [show ((zcb (upd kt k ((kt k) + 1)) pt), (zcb (upd km k ((km k) + 0)) pm), (zcb kl pl)).2.2 k = kl k from zcb_k (by omega)]
      refine lv_iload_n hx hb dX5_learn_35 rfl (lv_at hl 3 rfl) ?_
      refine lv_aload_n hx hb dX5_learn_36 rfl (lv_at hl 0 rfl) ?_
      refine va_get (ci := 5) (v := .ref (h 4)) (C := RX5) (T := TX5) (N := 20) hx hb hts hinX5 hown hK hP 0 rfl rfl 5 (by decide) (hts (.fieldLink RX5 20 "TypingTutorModel" "levels" "[I") (List.mem_of_getElem? (i := 3) rfl)) (fun _ h9 => h9) rfl dX5_learn_37 ?_
      refine lv_iload_n hx hb dX5_learn_40 rfl (lv_at hl 1 rfl) ?_
      refine va_iald hx hb hK hP 4 0 rfl rfl (vp_in_nI (n := k) (N := 702) (by omega) (by omega)) dX5_learn_41 ?_
      rw [pk_cl (x := (nI k)) k (rfl) (by omega)]
      rw [show ((zcb (upd kt k ((kt k) + 1)) pt), (zcb (upd km k ((km k) + 0)) pm), (zcb kl pl)).2.2 k = kl k from zcb_k (by omega)]
      refine lv_isub hx hb dX5_learn_42 ?_
      refine lv_iconst (v := 4) hx hb dX5_learn_43 (by decide) ?_
      refine lv_idiv hx hb dX5_learn_44 (by decide) ?_
      refine lv_iadd hx hb dX5_learn_45 ?_
      refine va_iast hx hb hK hP hD hS 4 0 rfl rfl (vp_in_nI (n := k) (N := 702) (by omega) (by omega)) dX5_learn_46 (fun H locs hP hD hS => ?_)
      rw [pk_cl (x := (nI k)) k (rfl) (by omega)] at hP hD
      have hP : va_P D vwCl (zWM cI cJ cZ h th (n, L) ((zcb (upd kt k ((kt k) + 1)) pt), (zcb (upd km k ((km k) + 0)) pm), (upd (zcb kl pl) k ((kl k) + ((g - (kl k)) / 4)))) mc (run, wc, nu, lc, le, af, tr, ms, cl, tm) (co, yn, yh, pa) ++ R) _ := hP
      have hD : va_D (zAb B) (zWM cI cJ cZ h th (n, L) ((zcb (upd kt k ((kt k) + 1)) pt), (zcb (upd km k ((km k) + 0)) pm), (upd (zcb kl pl) k ((kl k) + ((g - (kl k)) / 4)))) mc (run, wc, nu, lc, le, af, tr, ms, cl, tm) (co, yn, yh, pa) ++ R) := hD
      rw [zcb_uk (k := k) (by omega)] at hP hD
      have hP : va_P D vwCl (zWM cI cJ cZ h th (n, L) ((zcb (upd kt k ((kt k) + 1)) pt), (zcb (upd km k ((km k) + 0)) pm), (zcb (upd kl k ((kl k) + ((g - (kl k)) / 4))) pl)) mc (run, wc, nu, lc, le, af, tr, ms, cl, tm) (co, yn, yh, pa) ++ R) _ := hP
      have hD : va_D (zAb B) (zWM cI cJ cZ h th (n, L) ((zcb (upd kt k ((kt k) + 1)) pt), (zcb (upd km k ((km k) + 0)) pm), (zcb (upd kl k ((kl k) + ((g - (kl k)) / 4))) pl)) mc (run, wc, nu, lc, le, af, tr, ms, cl, tm) (co, yn, yh, pa) ++ R) := hD
      rw [zup0] at hP hD
      exact W.vret hx hb hr (fun t ht hW => ⟨⟨(), rfl, trivial, by rw [ht]; exact hP, hD⟩, hS.F ht⟩) hS.2.2 dX5_learn_47
  | false =>
    refine Met.ofW (cc := cX5_learn) (maxL := 4) (ret := none) (by decide) rfl ?_
    intro p e s m args below meth c s₁ B0 hml hv
    obtain ⟨rfl, hP, hD, hK, hE, hB⟩ := hv
    have hx := B0.exec
    have hb := B0.bytes
    have hr := B0.returns
    have hts := atoms_spec (ws := wsX5_learn) B0.pre
    have hown : s.vm.findClass RX5 = some m.cls := findClass_of_methodNamed B0.named
    have hlocks := B0.notSynchronized
    have hA : ∀ q : Nat, s.heap.size ≤ q → zAb B q := fun q hq => Nat.le_trans hB hq
    have hS : va_S (zAb B) s.heap s.heap [] := va_S.rf
    have hl := lv_entry ([.ref (h 0), .int (nI k), .int (zb false), .int g]) (n := 4) (Nat.le_of_ble_eq_true rfl)
    rw [lg_entry_eq]
    generalize (lg_sl ([.ref (h 0), .int (nI k), .int (zb false), .int g]) ++ List.replicate (4 - (lg_sl ([.ref (h 0), .int (nI k), .int (zb false), .int g])).length) Slot.unset).toArray = ls at hl ⊢
    have hl : lv_has ls 4 [(0, .ref (h 0)), (1, .int (nI k)), (2, .int 0), (3, .int g)] := hl
    have hinX5 : ∀ w ∈ wsX50, w ∈ wsX5_learn := fun _ h => List.mem_cons_of_mem _ (List.mem_append_right _ h)
    have hP : va_P D vwCl (zWM cI cJ cZ h th (n, L) ((zcb kt pt), (zcb km pm), (zcb kl pl)) mc (run, wc, nu, lc, le, af, tr, ms, cl, tm) (co, yn, yh, pa) ++ R) s.heap := hP
    have hD : va_D (zAb B) (zWM cI cJ cZ h th (n, L) ((zcb kt pt), (zcb km pm), (zcb kl pl)) mc (run, wc, nu, lc, le, af, tr, ms, cl, tm) (co, yn, yh, pa) ++ R) := hD
    refine lv_aload_n hx hb dX5_learn_0 rfl (lv_at hl 0 rfl) ?_
    refine va_get (ci := 5) (v := .ref (h 2)) (C := RX5) (T := TX5) (N := 20) hx hb hts hinX5 hown hK hP 0 rfl rfl 3 (by decide) (hts (.fieldLink RX5 13 "TypingTutorModel" "tries" "[I") (List.mem_of_getElem? (i := 1) rfl)) (fun _ h9 => h9) rfl dX5_learn_1 ?_
    refine lv_iload_n hx hb dX5_learn_4 rfl (lv_at hl 1 rfl) ?_
    refine lv_dup2_11 hx hb dX5_learn_5 rfl rfl ?_
    refine va_iald hx hb hK hP 2 0 rfl rfl (vp_in_nI (n := k) (N := 702) (by omega) (by omega)) dX5_learn_6 ?_
    rw [pk_cl (x := (nI k)) k (rfl) (by omega)]
    rw [show ((zcb kt pt), (zcb km pm), (zcb kl pl)).1 k = kt k from zcb_k (by omega)]
    refine lv_iconst (v := 1) hx hb dX5_learn_7 (by decide) ?_
    refine lv_iadd hx hb dX5_learn_8 ?_
    refine va_iast hx hb hK hP hD hS 2 0 rfl rfl (vp_in_nI (n := k) (N := 702) (by omega) (by omega)) dX5_learn_9 (fun H locs hP hD hS => ?_)
    rw [pk_cl (x := (nI k)) k (rfl) (by omega)] at hP hD
    have hP : va_P D vwCl (zWM cI cJ cZ h th (n, L) ((upd (zcb kt pt) k ((kt k) + 1)), (zcb km pm), (zcb kl pl)) mc (run, wc, nu, lc, le, af, tr, ms, cl, tm) (co, yn, yh, pa) ++ R) _ := hP
    have hD : va_D (zAb B) (zWM cI cJ cZ h th (n, L) ((upd (zcb kt pt) k ((kt k) + 1)), (zcb km pm), (zcb kl pl)) mc (run, wc, nu, lc, le, af, tr, ms, cl, tm) (co, yn, yh, pa) ++ R) := hD
    rw [zcb_uk (k := k) (by omega)] at hP hD
    have hP : va_P D vwCl (zWM cI cJ cZ h th (n, L) ((zcb (upd kt k ((kt k) + 1)) pt), (zcb km pm), (zcb kl pl)) mc (run, wc, nu, lc, le, af, tr, ms, cl, tm) (co, yn, yh, pa) ++ R) _ := hP
    have hD : va_D (zAb B) (zWM cI cJ cZ h th (n, L) ((zcb (upd kt k ((kt k) + 1)) pt), (zcb km pm), (zcb kl pl)) mc (run, wc, nu, lc, le, af, tr, ms, cl, tm) (co, yn, yh, pa) ++ R) := hD
    refine lv_aload_n hx hb dX5_learn_10 rfl (lv_at hl 0 rfl) ?_
    refine va_get (ci := 5) (v := .ref (h 3)) (C := RX5) (T := TX5) (N := 20) hx hb hts hinX5 hown hK hP 0 rfl rfl 4 (by decide) (hts (.fieldLink RX5 17 "TypingTutorModel" "misses" "[I") (List.mem_of_getElem? (i := 2) rfl)) (fun _ h9 => h9) rfl dX5_learn_11 ?_
    refine lv_iload_n hx hb dX5_learn_14 rfl (lv_at hl 1 rfl) ?_
    refine lv_dup2_11 hx hb dX5_learn_15 rfl rfl ?_
    refine va_iald hx hb hK hP 3 0 rfl rfl (vp_in_nI (n := k) (N := 702) (by omega) (by omega)) dX5_learn_16 ?_
    rw [pk_cl (x := (nI k)) k (rfl) (by omega)]
    rw [show ((zcb (upd kt k ((kt k) + 1)) pt), (zcb km pm), (zcb kl pl)).2.1 k = km k from zcb_k (by omega)]
    refine lv_iload_n hx hb dX5_learn_17 rfl (lv_at hl 2 rfl) ?_
    refine lv_if_eq (tgt := 25) hx hb dX5_learn_18 (by decide) (fun c_2 => ?_) (fun c_2 => ?_)
    · skip
      refine lv_iconst (v := 1) hx hb dX5_learn_25 (by decide) ?_
      refine lv_iadd hx hb dX5_learn_26 ?_
      refine va_iast hx hb hK hP hD hS 3 0 rfl rfl (vp_in_nI (n := k) (N := 702) (by omega) (by omega)) dX5_learn_27 (fun H locs hP hD hS => ?_)
      rw [pk_cl (x := (nI k)) k (rfl) (by omega)] at hP hD
      have hP : va_P D vwCl (zWM cI cJ cZ h th (n, L) ((zcb (upd kt k ((kt k) + 1)) pt), (upd (zcb km pm) k ((km k) + 1)), (zcb kl pl)) mc (run, wc, nu, lc, le, af, tr, ms, cl, tm) (co, yn, yh, pa) ++ R) _ := hP
      have hD : va_D (zAb B) (zWM cI cJ cZ h th (n, L) ((zcb (upd kt k ((kt k) + 1)) pt), (upd (zcb km pm) k ((km k) + 1)), (zcb kl pl)) mc (run, wc, nu, lc, le, af, tr, ms, cl, tm) (co, yn, yh, pa) ++ R) := hD
      rw [zcb_uk (k := k) (by omega)] at hP hD
      have hP : va_P D vwCl (zWM cI cJ cZ h th (n, L) ((zcb (upd kt k ((kt k) + 1)) pt), (zcb (upd km k ((km k) + 1)) pm), (zcb kl pl)) mc (run, wc, nu, lc, le, af, tr, ms, cl, tm) (co, yn, yh, pa) ++ R) _ := hP
      have hD : va_D (zAb B) (zWM cI cJ cZ h th (n, L) ((zcb (upd kt k ((kt k) + 1)) pt), (zcb (upd km k ((km k) + 1)) pm), (zcb kl pl)) mc (run, wc, nu, lc, le, af, tr, ms, cl, tm) (co, yn, yh, pa) ++ R) := hD
      refine lv_aload_n hx hb dX5_learn_28 rfl (lv_at hl 0 rfl) ?_
      refine va_get (ci := 5) (v := .ref (h 4)) (C := RX5) (T := TX5) (N := 20) hx hb hts hinX5 hown hK hP 0 rfl rfl 5 (by decide) (hts (.fieldLink RX5 20 "TypingTutorModel" "levels" "[I") (List.mem_of_getElem? (i := 3) rfl)) (fun _ h9 => h9) rfl dX5_learn_29 ?_
      refine lv_iload_n hx hb dX5_learn_32 rfl (lv_at hl 1 rfl) ?_
      refine lv_dup2_11 hx hb dX5_learn_33 rfl rfl ?_
      refine va_iald hx hb hK hP 4 0 rfl rfl (vp_in_nI (n := k) (N := 702) (by omega) (by omega)) dX5_learn_34 ?_
      rw [pk_cl (x := (nI k)) k (rfl) (by omega)]
      rw [show ((zcb (upd kt k ((kt k) + 1)) pt), (zcb (upd km k ((km k) + 1)) pm), (zcb kl pl)).2.2 k = kl k from zcb_k (by omega)]
      refine lv_iload_n hx hb dX5_learn_35 rfl (lv_at hl 3 rfl) ?_
      refine lv_aload_n hx hb dX5_learn_36 rfl (lv_at hl 0 rfl) ?_
      refine va_get (ci := 5) (v := .ref (h 4)) (C := RX5) (T := TX5) (N := 20) hx hb hts hinX5 hown hK hP 0 rfl rfl 5 (by decide) (hts (.fieldLink RX5 20 "TypingTutorModel" "levels" "[I") (List.mem_of_getElem? (i := 3) rfl)) (fun _ h9 => h9) rfl dX5_learn_37 ?_
      refine lv_iload_n hx hb dX5_learn_40 rfl (lv_at hl 1 rfl) ?_
      refine va_iald hx hb hK hP 4 0 rfl rfl (vp_in_nI (n := k) (N := 702) (by omega) (by omega)) dX5_learn_41 ?_
      rw [pk_cl (x := (nI k)) k (rfl) (by omega)]
      rw [show ((zcb (upd kt k ((kt k) + 1)) pt), (zcb (upd km k ((km k) + 1)) pm), (zcb kl pl)).2.2 k = kl k from zcb_k (by omega)]
      refine lv_isub hx hb dX5_learn_42 ?_
      refine lv_iconst (v := 4) hx hb dX5_learn_43 (by decide) ?_
      refine lv_idiv hx hb dX5_learn_44 (by decide) ?_
      refine lv_iadd hx hb dX5_learn_45 ?_
      refine va_iast hx hb hK hP hD hS 4 0 rfl rfl (vp_in_nI (n := k) (N := 702) (by omega) (by omega)) dX5_learn_46 (fun H locs hP hD hS => ?_)
      rw [pk_cl (x := (nI k)) k (rfl) (by omega)] at hP hD
      have hP : va_P D vwCl (zWM cI cJ cZ h th (n, L) ((zcb (upd kt k ((kt k) + 1)) pt), (zcb (upd km k ((km k) + 1)) pm), (upd (zcb kl pl) k ((kl k) + ((g - (kl k)) / 4)))) mc (run, wc, nu, lc, le, af, tr, ms, cl, tm) (co, yn, yh, pa) ++ R) _ := hP
      have hD : va_D (zAb B) (zWM cI cJ cZ h th (n, L) ((zcb (upd kt k ((kt k) + 1)) pt), (zcb (upd km k ((km k) + 1)) pm), (upd (zcb kl pl) k ((kl k) + ((g - (kl k)) / 4)))) mc (run, wc, nu, lc, le, af, tr, ms, cl, tm) (co, yn, yh, pa) ++ R) := hD
      rw [zcb_uk (k := k) (by omega)] at hP hD
      have hP : va_P D vwCl (zWM cI cJ cZ h th (n, L) ((zcb (upd kt k ((kt k) + 1)) pt), (zcb (upd km k ((km k) + 1)) pm), (zcb (upd kl k ((kl k) + ((g - (kl k)) / 4))) pl)) mc (run, wc, nu, lc, le, af, tr, ms, cl, tm) (co, yn, yh, pa) ++ R) _ := hP
      have hD : va_D (zAb B) (zWM cI cJ cZ h th (n, L) ((zcb (upd kt k ((kt k) + 1)) pt), (zcb (upd km k ((km k) + 1)) pm), (zcb (upd kl k ((kl k) + ((g - (kl k)) / 4))) pl)) mc (run, wc, nu, lc, le, af, tr, ms, cl, tm) (co, yn, yh, pa) ++ R) := hD
      exact W.vret hx hb hr (fun t ht hW => ⟨⟨(), rfl, trivial, by rw [ht]; exact hP, hD⟩, hS.F ht⟩) hS.2.2 dX5_learn_47
    · skip
      exfalso; first | omega | (revert c_2; decide) | (exact absurd rfl c_2) | simp_all

set_option maxHeartbeats 1000000 in
set_option maxRecDepth 100000 in
theorem c_X5_known_p0 {l : Launch} {B kr kp : Nat} {D : va_G} {cI cJ cZ : ClassId} {h : Nat → Nat} {R : va_W} {th : Int32} {n : Nat} {L : Nat → Int64} {kt : Nat → Int32} {km : Nat → Int32} {kl : Nat → Int32} {pt : Nat → Int32} {pm : Nat → Int32} {pl : Nat → Int32} {nu : Nat → Int32} {le : Nat → Int32} {af : Nat → Int32} {run : Bool} {wc : Nat} {lc : Nat} {tr : Nat} {cl : Nat} {tm : Nat} {ms : Nat} {co : Nat} {yn : Nat} {yh : Nat → Int32} {pa : Int32} {mc : Nat → Int32}  {k : Nat}  (hk : k < 676) : Met l yX5_known wsX5_known ({ frames := 0, cells := 0, slots := 0, locals := 0 }) (zPc B kr kp D (zTy cI cJ cZ) (zWM cI cJ cZ h th (n, L) ((zcb kt pt), (zcb km pm), (zcb kl pl)) mc (run, wc, nu, lc, le, af, tr, ms, cl, tm) (co, yn, yh, pa) ++ R) [.ref (h 0), .int (nI (26 + k)), .int 0]) (zQi B D (zWM cI cJ cZ h th (n, L) ((zcb kt pt), (zcb km pm), (zcb kl pl)) mc (run, wc, nu, lc, le, af, tr, ms, cl, tm) (co, yn, yh, pa) ++ R) (pt k)) 0 0 (zAb B) := by
  refine Met.ofW (cc := cX5_known) (maxL := 3) (ret := (some .int)) (by decide) rfl ?_
  intro p e s m args below meth c s₁ B0 hml hv
  obtain ⟨rfl, hP, hD, hK, hE, hB⟩ := hv
  have hx := B0.exec
  have hb := B0.bytes
  have hr := B0.returns
  have hts := atoms_spec (ws := wsX5_known) B0.pre
  have hown : s.vm.findClass RX5 = some m.cls := findClass_of_methodNamed B0.named
  have hlocks := B0.notSynchronized
  have hA : ∀ q : Nat, s.heap.size ≤ q → zAb B q := fun q hq => Nat.le_trans hB hq
  have hS : va_S (zAb B) s.heap s.heap [] := va_S.rf
  have hl := lv_entry ([.ref (h 0), .int (nI (26 + k)), .int 0]) (n := 3) (Nat.le_of_ble_eq_true rfl)
  rw [lg_entry_eq]
  generalize (lg_sl ([.ref (h 0), .int (nI (26 + k)), .int 0]) ++ List.replicate (3 - (lg_sl ([.ref (h 0), .int (nI (26 + k)), .int 0])).length) Slot.unset).toArray = ls at hl ⊢
  have hl : lv_has ls 3 [(0, .ref (h 0)), (1, .int (nI (26 + k))), (2, .int 0)] := hl
  have hinX5 : ∀ w ∈ wsX50, w ∈ wsX5_known := fun _ h => List.mem_cons_of_mem _ (List.mem_append_right _ h)
  have hP : va_P D vwCl (zWM cI cJ cZ h th (n, L) ((zcb kt pt), (zcb km pm), (zcb kl pl)) mc (run, wc, nu, lc, le, af, tr, ms, cl, tm) (co, yn, yh, pa) ++ R) s.heap := hP
  have hD : va_D (zAb B) (zWM cI cJ cZ h th (n, L) ((zcb kt pt), (zcb km pm), (zcb kl pl)) mc (run, wc, nu, lc, le, af, tr, ms, cl, tm) (co, yn, yh, pa) ++ R) := hD
  refine lv_iload_n hx hb dX5_known_0 rfl (lv_at hl 2 rfl) ?_
  refine lv_if_ne (tgt := 13) hx hb dX5_known_1 (by decide) (fun c_1 => ?_) (fun c_1 => ?_)
  · skip
    exfalso; first | omega | (revert c_1; decide) | (exact absurd rfl c_1) | simp_all
  · skip
    refine lv_aload_n hx hb dX5_known_4 rfl (lv_at hl 0 rfl) ?_
    refine va_get (ci := 5) (v := .ref (h 2)) (C := RX5) (T := TX5) (N := 20) hx hb hts hinX5 hown hK hP 0 rfl rfl 3 (by decide) (hts (.fieldLink RX5 13 "TypingTutorModel" "tries" "[I") (List.mem_of_getElem? (i := 1) rfl)) (fun _ h9 => h9) rfl dX5_known_5 ?_
    refine lv_iload_n hx hb dX5_known_8 rfl (lv_at hl 1 rfl) ?_
    refine va_iald hx hb hK hP 2 0 rfl rfl (vp_in_nI (n := (26 + k)) (N := 702) (by omega) (by omega)) dX5_known_9 ?_
    rw [pk_cl (x := (nI (26 + k))) (26 + k) (rfl) (by omega)]
    rw [show ((zcb kt pt), (zcb km pm), (zcb kl pl)).1 (26 + k) = pt k from zcb_p]
    refine lv_goto (tgt := 33) hx hb dX5_known_10 (by decide) ?_
    exact W.iret (v := (pt k)) hx hb hr (fun t ht hW => ⟨⟨_, (), rfl, rfl, by rw [ht]; exact hP, hD⟩, hS.F ht⟩) hS.2.2 dX5_known_33

set_option maxHeartbeats 1000000 in
set_option maxRecDepth 100000 in
theorem c_X5_known_p1 {l : Launch} {B kr kp : Nat} {D : va_G} {cI cJ cZ : ClassId} {h : Nat → Nat} {R : va_W} {th : Int32} {n : Nat} {L : Nat → Int64} {kt : Nat → Int32} {km : Nat → Int32} {kl : Nat → Int32} {pt : Nat → Int32} {pm : Nat → Int32} {pl : Nat → Int32} {nu : Nat → Int32} {le : Nat → Int32} {af : Nat → Int32} {run : Bool} {wc : Nat} {lc : Nat} {tr : Nat} {cl : Nat} {tm : Nat} {ms : Nat} {co : Nat} {yn : Nat} {yh : Nat → Int32} {pa : Int32} {mc : Nat → Int32}  {k : Nat}  (hk : k < 676) : Met l yX5_known wsX5_known ({ frames := 0, cells := 0, slots := 0, locals := 0 }) (zPc B kr kp D (zTy cI cJ cZ) (zWM cI cJ cZ h th (n, L) ((zcb kt pt), (zcb km pm), (zcb kl pl)) mc (run, wc, nu, lc, le, af, tr, ms, cl, tm) (co, yn, yh, pa) ++ R) [.ref (h 0), .int (nI (26 + k)), .int 1]) (zQi B D (zWM cI cJ cZ h th (n, L) ((zcb kt pt), (zcb km pm), (zcb kl pl)) mc (run, wc, nu, lc, le, af, tr, ms, cl, tm) (co, yn, yh, pa) ++ R) (pm k)) 0 0 (zAb B) := by
  refine Met.ofW (cc := cX5_known) (maxL := 3) (ret := (some .int)) (by decide) rfl ?_
  intro p e s m args below meth c s₁ B0 hml hv
  obtain ⟨rfl, hP, hD, hK, hE, hB⟩ := hv
  have hx := B0.exec
  have hb := B0.bytes
  have hr := B0.returns
  have hts := atoms_spec (ws := wsX5_known) B0.pre
  have hown : s.vm.findClass RX5 = some m.cls := findClass_of_methodNamed B0.named
  have hlocks := B0.notSynchronized
  have hA : ∀ q : Nat, s.heap.size ≤ q → zAb B q := fun q hq => Nat.le_trans hB hq
  have hS : va_S (zAb B) s.heap s.heap [] := va_S.rf
  have hl := lv_entry ([.ref (h 0), .int (nI (26 + k)), .int 1]) (n := 3) (Nat.le_of_ble_eq_true rfl)
  rw [lg_entry_eq]
  generalize (lg_sl ([.ref (h 0), .int (nI (26 + k)), .int 1]) ++ List.replicate (3 - (lg_sl ([.ref (h 0), .int (nI (26 + k)), .int 1])).length) Slot.unset).toArray = ls at hl ⊢
  have hl : lv_has ls 3 [(0, .ref (h 0)), (1, .int (nI (26 + k))), (2, .int 1)] := hl
  have hinX5 : ∀ w ∈ wsX50, w ∈ wsX5_known := fun _ h => List.mem_cons_of_mem _ (List.mem_append_right _ h)
  have hP : va_P D vwCl (zWM cI cJ cZ h th (n, L) ((zcb kt pt), (zcb km pm), (zcb kl pl)) mc (run, wc, nu, lc, le, af, tr, ms, cl, tm) (co, yn, yh, pa) ++ R) s.heap := hP
  have hD : va_D (zAb B) (zWM cI cJ cZ h th (n, L) ((zcb kt pt), (zcb km pm), (zcb kl pl)) mc (run, wc, nu, lc, le, af, tr, ms, cl, tm) (co, yn, yh, pa) ++ R) := hD
  refine lv_iload_n hx hb dX5_known_0 rfl (lv_at hl 2 rfl) ?_
  refine lv_if_ne (tgt := 13) hx hb dX5_known_1 (by decide) (fun c_1 => ?_) (fun c_1 => ?_)
  · skip
    refine lv_iload_n hx hb dX5_known_13 rfl (lv_at hl 2 rfl) ?_
    refine lv_iconst (v := 1) hx hb dX5_known_14 (by decide) ?_
    refine lv_icmp_ne (tgt := 27) hx hb dX5_known_15 (by decide) (fun c_2 => ?_) (fun c_2 => ?_)
    · skip
      exfalso; first | omega | (revert c_2; decide) | (exact absurd rfl c_2) | simp_all
    · skip
      refine lv_aload_n hx hb dX5_known_18 rfl (lv_at hl 0 rfl) ?_
      refine va_get (ci := 5) (v := .ref (h 3)) (C := RX5) (T := TX5) (N := 20) hx hb hts hinX5 hown hK hP 0 rfl rfl 4 (by decide) (hts (.fieldLink RX5 17 "TypingTutorModel" "misses" "[I") (List.mem_of_getElem? (i := 2) rfl)) (fun _ h9 => h9) rfl dX5_known_19 ?_
      refine lv_iload_n hx hb dX5_known_22 rfl (lv_at hl 1 rfl) ?_
      refine va_iald hx hb hK hP 3 0 rfl rfl (vp_in_nI (n := (26 + k)) (N := 702) (by omega) (by omega)) dX5_known_23 ?_
      rw [pk_cl (x := (nI (26 + k))) (26 + k) (rfl) (by omega)]
      rw [show ((zcb kt pt), (zcb km pm), (zcb kl pl)).2.1 (26 + k) = pm k from zcb_p]
      refine lv_goto (tgt := 33) hx hb dX5_known_24 (by decide) ?_
      exact W.iret (v := (pm k)) hx hb hr (fun t ht hW => ⟨⟨_, (), rfl, rfl, by rw [ht]; exact hP, hD⟩, hS.F ht⟩) hS.2.2 dX5_known_33
  · skip
    exfalso; first | omega | (revert c_1; decide) | (exact absurd rfl c_1) | simp_all

set_option maxHeartbeats 1000000 in
set_option maxRecDepth 100000 in
theorem c_X5_known_p2 {l : Launch} {B kr kp : Nat} {D : va_G} {cI cJ cZ : ClassId} {h : Nat → Nat} {R : va_W} {th : Int32} {n : Nat} {L : Nat → Int64} {kt : Nat → Int32} {km : Nat → Int32} {kl : Nat → Int32} {pt : Nat → Int32} {pm : Nat → Int32} {pl : Nat → Int32} {nu : Nat → Int32} {le : Nat → Int32} {af : Nat → Int32} {run : Bool} {wc : Nat} {lc : Nat} {tr : Nat} {cl : Nat} {tm : Nat} {ms : Nat} {co : Nat} {yn : Nat} {yh : Nat → Int32} {pa : Int32} {mc : Nat → Int32}  {k : Nat}  (hk : k < 676) : Met l yX5_known wsX5_known ({ frames := 0, cells := 0, slots := 0, locals := 0 }) (zPc B kr kp D (zTy cI cJ cZ) (zWM cI cJ cZ h th (n, L) ((zcb kt pt), (zcb km pm), (zcb kl pl)) mc (run, wc, nu, lc, le, af, tr, ms, cl, tm) (co, yn, yh, pa) ++ R) [.ref (h 0), .int (nI (26 + k)), .int 2]) (zQi B D (zWM cI cJ cZ h th (n, L) ((zcb kt pt), (zcb km pm), (zcb kl pl)) mc (run, wc, nu, lc, le, af, tr, ms, cl, tm) (co, yn, yh, pa) ++ R) (pl k)) 0 0 (zAb B) := by
  refine Met.ofW (cc := cX5_known) (maxL := 3) (ret := (some .int)) (by decide) rfl ?_
  intro p e s m args below meth c s₁ B0 hml hv
  obtain ⟨rfl, hP, hD, hK, hE, hB⟩ := hv
  have hx := B0.exec
  have hb := B0.bytes
  have hr := B0.returns
  have hts := atoms_spec (ws := wsX5_known) B0.pre
  have hown : s.vm.findClass RX5 = some m.cls := findClass_of_methodNamed B0.named
  have hlocks := B0.notSynchronized
  have hA : ∀ q : Nat, s.heap.size ≤ q → zAb B q := fun q hq => Nat.le_trans hB hq
  have hS : va_S (zAb B) s.heap s.heap [] := va_S.rf
  have hl := lv_entry ([.ref (h 0), .int (nI (26 + k)), .int 2]) (n := 3) (Nat.le_of_ble_eq_true rfl)
  rw [lg_entry_eq]
  generalize (lg_sl ([.ref (h 0), .int (nI (26 + k)), .int 2]) ++ List.replicate (3 - (lg_sl ([.ref (h 0), .int (nI (26 + k)), .int 2])).length) Slot.unset).toArray = ls at hl ⊢
  have hl : lv_has ls 3 [(0, .ref (h 0)), (1, .int (nI (26 + k))), (2, .int 2)] := hl
  have hinX5 : ∀ w ∈ wsX50, w ∈ wsX5_known := fun _ h => List.mem_cons_of_mem _ (List.mem_append_right _ h)
  have hP : va_P D vwCl (zWM cI cJ cZ h th (n, L) ((zcb kt pt), (zcb km pm), (zcb kl pl)) mc (run, wc, nu, lc, le, af, tr, ms, cl, tm) (co, yn, yh, pa) ++ R) s.heap := hP
  have hD : va_D (zAb B) (zWM cI cJ cZ h th (n, L) ((zcb kt pt), (zcb km pm), (zcb kl pl)) mc (run, wc, nu, lc, le, af, tr, ms, cl, tm) (co, yn, yh, pa) ++ R) := hD
  refine lv_iload_n hx hb dX5_known_0 rfl (lv_at hl 2 rfl) ?_
  refine lv_if_ne (tgt := 13) hx hb dX5_known_1 (by decide) (fun c_1 => ?_) (fun c_1 => ?_)
  · skip
    refine lv_iload_n hx hb dX5_known_13 rfl (lv_at hl 2 rfl) ?_
    refine lv_iconst (v := 1) hx hb dX5_known_14 (by decide) ?_
    refine lv_icmp_ne (tgt := 27) hx hb dX5_known_15 (by decide) (fun c_2 => ?_) (fun c_2 => ?_)
    · skip
      refine lv_aload_n hx hb dX5_known_27 rfl (lv_at hl 0 rfl) ?_
      refine va_get (ci := 5) (v := .ref (h 4)) (C := RX5) (T := TX5) (N := 20) hx hb hts hinX5 hown hK hP 0 rfl rfl 5 (by decide) (hts (.fieldLink RX5 20 "TypingTutorModel" "levels" "[I") (List.mem_of_getElem? (i := 3) rfl)) (fun _ h9 => h9) rfl dX5_known_28 ?_
      refine lv_iload_n hx hb dX5_known_31 rfl (lv_at hl 1 rfl) ?_
      refine va_iald hx hb hK hP 4 0 rfl rfl (vp_in_nI (n := (26 + k)) (N := 702) (by omega) (by omega)) dX5_known_32 ?_
      rw [pk_cl (x := (nI (26 + k))) (26 + k) (rfl) (by omega)]
      rw [show ((zcb kt pt), (zcb km pm), (zcb kl pl)).2.2 (26 + k) = pl k from zcb_p]
      exact W.iret (v := (pl k)) hx hb hr (fun t ht hW => ⟨⟨_, (), rfl, rfl, by rw [ht]; exact hP, hD⟩, hS.F ht⟩) hS.2.2 dX5_known_33
    · skip
      exfalso; first | omega | (revert c_2; decide) | (exact absurd rfl c_2) | simp_all
  · skip
    exfalso; first | omega | (revert c_1; decide) | (exact absurd rfl c_1) | simp_all

set_option maxHeartbeats 1000000 in
set_option maxRecDepth 100000 in
theorem c_X5_learn_p {l : Launch} {B kr kp : Nat} {D : va_G} {cI cJ cZ : ClassId} {h : Nat → Nat} {R : va_W} {th : Int32} {n : Nat} {L : Nat → Int64} {kt : Nat → Int32} {km : Nat → Int32} {kl : Nat → Int32} {pt : Nat → Int32} {pm : Nat → Int32} {pl : Nat → Int32} {nu : Nat → Int32} {le : Nat → Int32} {af : Nat → Int32} {run : Bool} {wc : Nat} {lc : Nat} {tr : Nat} {cl : Nat} {tm : Nat} {ms : Nat} {co : Nat} {yn : Nat} {yh : Nat → Int32} {pa : Int32} {mc : Nat → Int32} {b : Bool} {g : Int32} {k : Nat}  (hk : k < 676) : Met l yX5_learn wsX5_learn ({ frames := 0, cells := 0, slots := 0, locals := 0 }) (zPc B kr kp D (zTy cI cJ cZ) (zWM cI cJ cZ h th (n, L) ((zcb kt pt), (zcb km pm), (zcb kl pl)) mc (run, wc, nu, lc, le, af, tr, ms, cl, tm) (co, yn, yh, pa) ++ R) [.ref (h 0), .int (nI (26 + k)), .int (zb b), .int g]) (zQv B D (zWM cI cJ cZ h th (n, L) ((zcb kt (zkt pt k)), (zcb km (zkm b pm k)), (zcb kl (upd pl k (zlv (pl k) g)))) mc (run, wc, nu, lc, le, af, tr, ms, cl, tm) (co, yn, yh, pa) ++ R)) 0 0 (zAb B) := by
  cases b with
  | true =>
    refine Met.ofW (cc := cX5_learn) (maxL := 4) (ret := none) (by decide) rfl ?_
    intro p e s m args below meth c s₁ B0 hml hv
    obtain ⟨rfl, hP, hD, hK, hE, hB⟩ := hv
    have hx := B0.exec
    have hb := B0.bytes
    have hr := B0.returns
    have hts := atoms_spec (ws := wsX5_learn) B0.pre
    have hown : s.vm.findClass RX5 = some m.cls := findClass_of_methodNamed B0.named
    have hlocks := B0.notSynchronized
    have hA : ∀ q : Nat, s.heap.size ≤ q → zAb B q := fun q hq => Nat.le_trans hB hq
    have hS : va_S (zAb B) s.heap s.heap [] := va_S.rf
    have hl := lv_entry ([.ref (h 0), .int (nI (26 + k)), .int (zb true), .int g]) (n := 4) (Nat.le_of_ble_eq_true rfl)
    rw [lg_entry_eq]
    generalize (lg_sl ([.ref (h 0), .int (nI (26 + k)), .int (zb true), .int g]) ++ List.replicate (4 - (lg_sl ([.ref (h 0), .int (nI (26 + k)), .int (zb true), .int g])).length) Slot.unset).toArray = ls at hl ⊢
    have hl : lv_has ls 4 [(0, .ref (h 0)), (1, .int (nI (26 + k))), (2, .int 1), (3, .int g)] := hl
    have hinX5 : ∀ w ∈ wsX50, w ∈ wsX5_learn := fun _ h => List.mem_cons_of_mem _ (List.mem_append_right _ h)
    have hP : va_P D vwCl (zWM cI cJ cZ h th (n, L) ((zcb kt pt), (zcb km pm), (zcb kl pl)) mc (run, wc, nu, lc, le, af, tr, ms, cl, tm) (co, yn, yh, pa) ++ R) s.heap := hP
    have hD : va_D (zAb B) (zWM cI cJ cZ h th (n, L) ((zcb kt pt), (zcb km pm), (zcb kl pl)) mc (run, wc, nu, lc, le, af, tr, ms, cl, tm) (co, yn, yh, pa) ++ R) := hD
    refine lv_aload_n hx hb dX5_learn_0 rfl (lv_at hl 0 rfl) ?_
    refine va_get (ci := 5) (v := .ref (h 2)) (C := RX5) (T := TX5) (N := 20) hx hb hts hinX5 hown hK hP 0 rfl rfl 3 (by decide) (hts (.fieldLink RX5 13 "TypingTutorModel" "tries" "[I") (List.mem_of_getElem? (i := 1) rfl)) (fun _ h9 => h9) rfl dX5_learn_1 ?_
    refine lv_iload_n hx hb dX5_learn_4 rfl (lv_at hl 1 rfl) ?_
    refine lv_dup2_11 hx hb dX5_learn_5 rfl rfl ?_
    refine va_iald hx hb hK hP 2 0 rfl rfl (vp_in_nI (n := (26 + k)) (N := 702) (by omega) (by omega)) dX5_learn_6 ?_
    rw [pk_cl (x := (nI (26 + k))) (26 + k) (rfl) (by omega)]
    rw [show ((zcb kt pt), (zcb km pm), (zcb kl pl)).1 (26 + k) = pt k from zcb_p]
    refine lv_iconst (v := 1) hx hb dX5_learn_7 (by decide) ?_
    refine lv_iadd hx hb dX5_learn_8 ?_
    refine va_iast hx hb hK hP hD hS 2 0 rfl rfl (vp_in_nI (n := (26 + k)) (N := 702) (by omega) (by omega)) dX5_learn_9 (fun H locs hP hD hS => ?_)
    rw [pk_cl (x := (nI (26 + k))) (26 + k) (rfl) (by omega)] at hP hD
    have hP : va_P D vwCl (zWM cI cJ cZ h th (n, L) ((upd (zcb kt pt) (26 + k) ((pt k) + 1)), (zcb km pm), (zcb kl pl)) mc (run, wc, nu, lc, le, af, tr, ms, cl, tm) (co, yn, yh, pa) ++ R) _ := hP
    have hD : va_D (zAb B) (zWM cI cJ cZ h th (n, L) ((upd (zcb kt pt) (26 + k) ((pt k) + 1)), (zcb km pm), (zcb kl pl)) mc (run, wc, nu, lc, le, af, tr, ms, cl, tm) (co, yn, yh, pa) ++ R) := hD
    rw [zcb_up] at hP hD
    have hP : va_P D vwCl (zWM cI cJ cZ h th (n, L) ((zcb kt (upd pt k ((pt k) + 1))), (zcb km pm), (zcb kl pl)) mc (run, wc, nu, lc, le, af, tr, ms, cl, tm) (co, yn, yh, pa) ++ R) _ := hP
    have hD : va_D (zAb B) (zWM cI cJ cZ h th (n, L) ((zcb kt (upd pt k ((pt k) + 1))), (zcb km pm), (zcb kl pl)) mc (run, wc, nu, lc, le, af, tr, ms, cl, tm) (co, yn, yh, pa) ++ R) := hD
    refine lv_aload_n hx hb dX5_learn_10 rfl (lv_at hl 0 rfl) ?_
    refine va_get (ci := 5) (v := .ref (h 3)) (C := RX5) (T := TX5) (N := 20) hx hb hts hinX5 hown hK hP 0 rfl rfl 4 (by decide) (hts (.fieldLink RX5 17 "TypingTutorModel" "misses" "[I") (List.mem_of_getElem? (i := 2) rfl)) (fun _ h9 => h9) rfl dX5_learn_11 ?_
    refine lv_iload_n hx hb dX5_learn_14 rfl (lv_at hl 1 rfl) ?_
    refine lv_dup2_11 hx hb dX5_learn_15 rfl rfl ?_
    refine va_iald hx hb hK hP 3 0 rfl rfl (vp_in_nI (n := (26 + k)) (N := 702) (by omega) (by omega)) dX5_learn_16 ?_
    rw [pk_cl (x := (nI (26 + k))) (26 + k) (rfl) (by omega)]
    rw [show ((zcb kt (upd pt k ((pt k) + 1))), (zcb km pm), (zcb kl pl)).2.1 (26 + k) = pm k from zcb_p]
    refine lv_iload_n hx hb dX5_learn_17 rfl (lv_at hl 2 rfl) ?_
    refine lv_if_eq (tgt := 25) hx hb dX5_learn_18 (by decide) (fun c_1 => ?_) (fun c_1 => ?_)
    · skip
      exfalso; first | omega | (revert c_1; decide) | (exact absurd rfl c_1) | simp_all
    · skip
      refine lv_iconst (v := 0) hx hb dX5_learn_21 (by decide) ?_
      refine lv_goto (tgt := 26) hx hb dX5_learn_22 (by decide) ?_
      refine lv_iadd hx hb dX5_learn_26 ?_
      refine va_iast hx hb hK hP hD hS 3 0 rfl rfl (vp_in_nI (n := (26 + k)) (N := 702) (by omega) (by omega)) dX5_learn_27 (fun H locs hP hD hS => ?_)
      rw [pk_cl (x := (nI (26 + k))) (26 + k) (rfl) (by omega)] at hP hD
      have hP : va_P D vwCl (zWM cI cJ cZ h th (n, L) ((zcb kt (upd pt k ((pt k) + 1))), (upd (zcb km pm) (26 + k) ((pm k) + 0)), (zcb kl pl)) mc (run, wc, nu, lc, le, af, tr, ms, cl, tm) (co, yn, yh, pa) ++ R) _ := hP
      have hD : va_D (zAb B) (zWM cI cJ cZ h th (n, L) ((zcb kt (upd pt k ((pt k) + 1))), (upd (zcb km pm) (26 + k) ((pm k) + 0)), (zcb kl pl)) mc (run, wc, nu, lc, le, af, tr, ms, cl, tm) (co, yn, yh, pa) ++ R) := hD
      rw [zcb_up] at hP hD
      have hP : va_P D vwCl (zWM cI cJ cZ h th (n, L) ((zcb kt (upd pt k ((pt k) + 1))), (zcb km (upd pm k ((pm k) + 0))), (zcb kl pl)) mc (run, wc, nu, lc, le, af, tr, ms, cl, tm) (co, yn, yh, pa) ++ R) _ := hP
      have hD : va_D (zAb B) (zWM cI cJ cZ h th (n, L) ((zcb kt (upd pt k ((pt k) + 1))), (zcb km (upd pm k ((pm k) + 0))), (zcb kl pl)) mc (run, wc, nu, lc, le, af, tr, ms, cl, tm) (co, yn, yh, pa) ++ R) := hD
      refine lv_aload_n hx hb dX5_learn_28 rfl (lv_at hl 0 rfl) ?_
      refine va_get (ci := 5) (v := .ref (h 4)) (C := RX5) (T := TX5) (N := 20) hx hb hts hinX5 hown hK hP 0 rfl rfl 5 (by decide) (hts (.fieldLink RX5 20 "TypingTutorModel" "levels" "[I") (List.mem_of_getElem? (i := 3) rfl)) (fun _ h9 => h9) rfl dX5_learn_29 ?_
      refine lv_iload_n hx hb dX5_learn_32 rfl (lv_at hl 1 rfl) ?_
      refine lv_dup2_11 hx hb dX5_learn_33 rfl rfl ?_
      refine va_iald hx hb hK hP 4 0 rfl rfl (vp_in_nI (n := (26 + k)) (N := 702) (by omega) (by omega)) dX5_learn_34 ?_
      rw [pk_cl (x := (nI (26 + k))) (26 + k) (rfl) (by omega)]
      rw [show ((zcb kt (upd pt k ((pt k) + 1))), (zcb km (upd pm k ((pm k) + 0))), (zcb kl pl)).2.2 (26 + k) = pl k from zcb_p]
      refine lv_iload_n hx hb dX5_learn_35 rfl (lv_at hl 3 rfl) ?_
      refine lv_aload_n hx hb dX5_learn_36 rfl (lv_at hl 0 rfl) ?_
      refine va_get (ci := 5) (v := .ref (h 4)) (C := RX5) (T := TX5) (N := 20) hx hb hts hinX5 hown hK hP 0 rfl rfl 5 (by decide) (hts (.fieldLink RX5 20 "TypingTutorModel" "levels" "[I") (List.mem_of_getElem? (i := 3) rfl)) (fun _ h9 => h9) rfl dX5_learn_37 ?_
      refine lv_iload_n hx hb dX5_learn_40 rfl (lv_at hl 1 rfl) ?_
      refine va_iald hx hb hK hP 4 0 rfl rfl (vp_in_nI (n := (26 + k)) (N := 702) (by omega) (by omega)) dX5_learn_41 ?_
      rw [pk_cl (x := (nI (26 + k))) (26 + k) (rfl) (by omega)]
      rw [show ((zcb kt (upd pt k ((pt k) + 1))), (zcb km (upd pm k ((pm k) + 0))), (zcb kl pl)).2.2 (26 + k) = pl k from zcb_p]
      refine lv_isub hx hb dX5_learn_42 ?_
      refine lv_iconst (v := 4) hx hb dX5_learn_43 (by decide) ?_
      refine lv_idiv hx hb dX5_learn_44 (by decide) ?_
      refine lv_iadd hx hb dX5_learn_45 ?_
      refine va_iast hx hb hK hP hD hS 4 0 rfl rfl (vp_in_nI (n := (26 + k)) (N := 702) (by omega) (by omega)) dX5_learn_46 (fun H locs hP hD hS => ?_)
      rw [pk_cl (x := (nI (26 + k))) (26 + k) (rfl) (by omega)] at hP hD
      have hP : va_P D vwCl (zWM cI cJ cZ h th (n, L) ((zcb kt (upd pt k ((pt k) + 1))), (zcb km (upd pm k ((pm k) + 0))), (upd (zcb kl pl) (26 + k) ((pl k) + ((g - (pl k)) / 4)))) mc (run, wc, nu, lc, le, af, tr, ms, cl, tm) (co, yn, yh, pa) ++ R) _ := hP
      have hD : va_D (zAb B) (zWM cI cJ cZ h th (n, L) ((zcb kt (upd pt k ((pt k) + 1))), (zcb km (upd pm k ((pm k) + 0))), (upd (zcb kl pl) (26 + k) ((pl k) + ((g - (pl k)) / 4)))) mc (run, wc, nu, lc, le, af, tr, ms, cl, tm) (co, yn, yh, pa) ++ R) := hD
      rw [zcb_up] at hP hD
      have hP : va_P D vwCl (zWM cI cJ cZ h th (n, L) ((zcb kt (upd pt k ((pt k) + 1))), (zcb km (upd pm k ((pm k) + 0))), (zcb kl (upd pl k ((pl k) + ((g - (pl k)) / 4))))) mc (run, wc, nu, lc, le, af, tr, ms, cl, tm) (co, yn, yh, pa) ++ R) _ := hP
      have hD : va_D (zAb B) (zWM cI cJ cZ h th (n, L) ((zcb kt (upd pt k ((pt k) + 1))), (zcb km (upd pm k ((pm k) + 0))), (zcb kl (upd pl k ((pl k) + ((g - (pl k)) / 4))))) mc (run, wc, nu, lc, le, af, tr, ms, cl, tm) (co, yn, yh, pa) ++ R) := hD
      rw [zup0] at hP hD
      exact W.vret hx hb hr (fun t ht hW => ⟨⟨(), rfl, trivial, by rw [ht]; exact hP, hD⟩, hS.F ht⟩) hS.2.2 dX5_learn_47
  | false =>
    refine Met.ofW (cc := cX5_learn) (maxL := 4) (ret := none) (by decide) rfl ?_
    intro p e s m args below meth c s₁ B0 hml hv
    obtain ⟨rfl, hP, hD, hK, hE, hB⟩ := hv
    have hx := B0.exec
    have hb := B0.bytes
    have hr := B0.returns
    have hts := atoms_spec (ws := wsX5_learn) B0.pre
    have hown : s.vm.findClass RX5 = some m.cls := findClass_of_methodNamed B0.named
    have hlocks := B0.notSynchronized
    have hA : ∀ q : Nat, s.heap.size ≤ q → zAb B q := fun q hq => Nat.le_trans hB hq
    have hS : va_S (zAb B) s.heap s.heap [] := va_S.rf
    have hl := lv_entry ([.ref (h 0), .int (nI (26 + k)), .int (zb false), .int g]) (n := 4) (Nat.le_of_ble_eq_true rfl)
    rw [lg_entry_eq]
    generalize (lg_sl ([.ref (h 0), .int (nI (26 + k)), .int (zb false), .int g]) ++ List.replicate (4 - (lg_sl ([.ref (h 0), .int (nI (26 + k)), .int (zb false), .int g])).length) Slot.unset).toArray = ls at hl ⊢
    have hl : lv_has ls 4 [(0, .ref (h 0)), (1, .int (nI (26 + k))), (2, .int 0), (3, .int g)] := hl
    have hinX5 : ∀ w ∈ wsX50, w ∈ wsX5_learn := fun _ h => List.mem_cons_of_mem _ (List.mem_append_right _ h)
    have hP : va_P D vwCl (zWM cI cJ cZ h th (n, L) ((zcb kt pt), (zcb km pm), (zcb kl pl)) mc (run, wc, nu, lc, le, af, tr, ms, cl, tm) (co, yn, yh, pa) ++ R) s.heap := hP
    have hD : va_D (zAb B) (zWM cI cJ cZ h th (n, L) ((zcb kt pt), (zcb km pm), (zcb kl pl)) mc (run, wc, nu, lc, le, af, tr, ms, cl, tm) (co, yn, yh, pa) ++ R) := hD
    refine lv_aload_n hx hb dX5_learn_0 rfl (lv_at hl 0 rfl) ?_
    refine va_get (ci := 5) (v := .ref (h 2)) (C := RX5) (T := TX5) (N := 20) hx hb hts hinX5 hown hK hP 0 rfl rfl 3 (by decide) (hts (.fieldLink RX5 13 "TypingTutorModel" "tries" "[I") (List.mem_of_getElem? (i := 1) rfl)) (fun _ h9 => h9) rfl dX5_learn_1 ?_
    refine lv_iload_n hx hb dX5_learn_4 rfl (lv_at hl 1 rfl) ?_
    refine lv_dup2_11 hx hb dX5_learn_5 rfl rfl ?_
    refine va_iald hx hb hK hP 2 0 rfl rfl (vp_in_nI (n := (26 + k)) (N := 702) (by omega) (by omega)) dX5_learn_6 ?_
    rw [pk_cl (x := (nI (26 + k))) (26 + k) (rfl) (by omega)]
    rw [show ((zcb kt pt), (zcb km pm), (zcb kl pl)).1 (26 + k) = pt k from zcb_p]
    refine lv_iconst (v := 1) hx hb dX5_learn_7 (by decide) ?_
    refine lv_iadd hx hb dX5_learn_8 ?_
    refine va_iast hx hb hK hP hD hS 2 0 rfl rfl (vp_in_nI (n := (26 + k)) (N := 702) (by omega) (by omega)) dX5_learn_9 (fun H locs hP hD hS => ?_)
    rw [pk_cl (x := (nI (26 + k))) (26 + k) (rfl) (by omega)] at hP hD
    have hP : va_P D vwCl (zWM cI cJ cZ h th (n, L) ((upd (zcb kt pt) (26 + k) ((pt k) + 1)), (zcb km pm), (zcb kl pl)) mc (run, wc, nu, lc, le, af, tr, ms, cl, tm) (co, yn, yh, pa) ++ R) _ := hP
    have hD : va_D (zAb B) (zWM cI cJ cZ h th (n, L) ((upd (zcb kt pt) (26 + k) ((pt k) + 1)), (zcb km pm), (zcb kl pl)) mc (run, wc, nu, lc, le, af, tr, ms, cl, tm) (co, yn, yh, pa) ++ R) := hD
    rw [zcb_up] at hP hD
    have hP : va_P D vwCl (zWM cI cJ cZ h th (n, L) ((zcb kt (upd pt k ((pt k) + 1))), (zcb km pm), (zcb kl pl)) mc (run, wc, nu, lc, le, af, tr, ms, cl, tm) (co, yn, yh, pa) ++ R) _ := hP
    have hD : va_D (zAb B) (zWM cI cJ cZ h th (n, L) ((zcb kt (upd pt k ((pt k) + 1))), (zcb km pm), (zcb kl pl)) mc (run, wc, nu, lc, le, af, tr, ms, cl, tm) (co, yn, yh, pa) ++ R) := hD
    refine lv_aload_n hx hb dX5_learn_10 rfl (lv_at hl 0 rfl) ?_
    refine va_get (ci := 5) (v := .ref (h 3)) (C := RX5) (T := TX5) (N := 20) hx hb hts hinX5 hown hK hP 0 rfl rfl 4 (by decide) (hts (.fieldLink RX5 17 "TypingTutorModel" "misses" "[I") (List.mem_of_getElem? (i := 2) rfl)) (fun _ h9 => h9) rfl dX5_learn_11 ?_
    refine lv_iload_n hx hb dX5_learn_14 rfl (lv_at hl 1 rfl) ?_
    refine lv_dup2_11 hx hb dX5_learn_15 rfl rfl ?_
    refine va_iald hx hb hK hP 3 0 rfl rfl (vp_in_nI (n := (26 + k)) (N := 702) (by omega) (by omega)) dX5_learn_16 ?_
    rw [pk_cl (x := (nI (26 + k))) (26 + k) (rfl) (by omega)]
    rw [show ((zcb kt (upd pt k ((pt k) + 1))), (zcb km pm), (zcb kl pl)).2.1 (26 + k) = pm k from zcb_p]
    refine lv_iload_n hx hb dX5_learn_17 rfl (lv_at hl 2 rfl) ?_
    refine lv_if_eq (tgt := 25) hx hb dX5_learn_18 (by decide) (fun c_2 => ?_) (fun c_2 => ?_)
    · skip
      refine lv_iconst (v := 1) hx hb dX5_learn_25 (by decide) ?_
      refine lv_iadd hx hb dX5_learn_26 ?_
      refine va_iast hx hb hK hP hD hS 3 0 rfl rfl (vp_in_nI (n := (26 + k)) (N := 702) (by omega) (by omega)) dX5_learn_27 (fun H locs hP hD hS => ?_)
      rw [pk_cl (x := (nI (26 + k))) (26 + k) (rfl) (by omega)] at hP hD
      have hP : va_P D vwCl (zWM cI cJ cZ h th (n, L) ((zcb kt (upd pt k ((pt k) + 1))), (upd (zcb km pm) (26 + k) ((pm k) + 1)), (zcb kl pl)) mc (run, wc, nu, lc, le, af, tr, ms, cl, tm) (co, yn, yh, pa) ++ R) _ := hP
      have hD : va_D (zAb B) (zWM cI cJ cZ h th (n, L) ((zcb kt (upd pt k ((pt k) + 1))), (upd (zcb km pm) (26 + k) ((pm k) + 1)), (zcb kl pl)) mc (run, wc, nu, lc, le, af, tr, ms, cl, tm) (co, yn, yh, pa) ++ R) := hD
      rw [zcb_up] at hP hD
      have hP : va_P D vwCl (zWM cI cJ cZ h th (n, L) ((zcb kt (upd pt k ((pt k) + 1))), (zcb km (upd pm k ((pm k) + 1))), (zcb kl pl)) mc (run, wc, nu, lc, le, af, tr, ms, cl, tm) (co, yn, yh, pa) ++ R) _ := hP
      have hD : va_D (zAb B) (zWM cI cJ cZ h th (n, L) ((zcb kt (upd pt k ((pt k) + 1))), (zcb km (upd pm k ((pm k) + 1))), (zcb kl pl)) mc (run, wc, nu, lc, le, af, tr, ms, cl, tm) (co, yn, yh, pa) ++ R) := hD
      refine lv_aload_n hx hb dX5_learn_28 rfl (lv_at hl 0 rfl) ?_
      refine va_get (ci := 5) (v := .ref (h 4)) (C := RX5) (T := TX5) (N := 20) hx hb hts hinX5 hown hK hP 0 rfl rfl 5 (by decide) (hts (.fieldLink RX5 20 "TypingTutorModel" "levels" "[I") (List.mem_of_getElem? (i := 3) rfl)) (fun _ h9 => h9) rfl dX5_learn_29 ?_
      refine lv_iload_n hx hb dX5_learn_32 rfl (lv_at hl 1 rfl) ?_
      refine lv_dup2_11 hx hb dX5_learn_33 rfl rfl ?_
      refine va_iald hx hb hK hP 4 0 rfl rfl (vp_in_nI (n := (26 + k)) (N := 702) (by omega) (by omega)) dX5_learn_34 ?_
      rw [pk_cl (x := (nI (26 + k))) (26 + k) (rfl) (by omega)]
      rw [show ((zcb kt (upd pt k ((pt k) + 1))), (zcb km (upd pm k ((pm k) + 1))), (zcb kl pl)).2.2 (26 + k) = pl k from zcb_p]
      refine lv_iload_n hx hb dX5_learn_35 rfl (lv_at hl 3 rfl) ?_
      refine lv_aload_n hx hb dX5_learn_36 rfl (lv_at hl 0 rfl) ?_
      refine va_get (ci := 5) (v := .ref (h 4)) (C := RX5) (T := TX5) (N := 20) hx hb hts hinX5 hown hK hP 0 rfl rfl 5 (by decide) (hts (.fieldLink RX5 20 "TypingTutorModel" "levels" "[I") (List.mem_of_getElem? (i := 3) rfl)) (fun _ h9 => h9) rfl dX5_learn_37 ?_
      refine lv_iload_n hx hb dX5_learn_40 rfl (lv_at hl 1 rfl) ?_
      refine va_iald hx hb hK hP 4 0 rfl rfl (vp_in_nI (n := (26 + k)) (N := 702) (by omega) (by omega)) dX5_learn_41 ?_
      rw [pk_cl (x := (nI (26 + k))) (26 + k) (rfl) (by omega)]
      rw [show ((zcb kt (upd pt k ((pt k) + 1))), (zcb km (upd pm k ((pm k) + 1))), (zcb kl pl)).2.2 (26 + k) = pl k from zcb_p]
      refine lv_isub hx hb dX5_learn_42 ?_
      refine lv_iconst (v := 4) hx hb dX5_learn_43 (by decide) ?_
      refine lv_idiv hx hb dX5_learn_44 (by decide) ?_
      refine lv_iadd hx hb dX5_learn_45 ?_
      refine va_iast hx hb hK hP hD hS 4 0 rfl rfl (vp_in_nI (n := (26 + k)) (N := 702) (by omega) (by omega)) dX5_learn_46 (fun H locs hP hD hS => ?_)
      rw [pk_cl (x := (nI (26 + k))) (26 + k) (rfl) (by omega)] at hP hD
      have hP : va_P D vwCl (zWM cI cJ cZ h th (n, L) ((zcb kt (upd pt k ((pt k) + 1))), (zcb km (upd pm k ((pm k) + 1))), (upd (zcb kl pl) (26 + k) ((pl k) + ((g - (pl k)) / 4)))) mc (run, wc, nu, lc, le, af, tr, ms, cl, tm) (co, yn, yh, pa) ++ R) _ := hP
      have hD : va_D (zAb B) (zWM cI cJ cZ h th (n, L) ((zcb kt (upd pt k ((pt k) + 1))), (zcb km (upd pm k ((pm k) + 1))), (upd (zcb kl pl) (26 + k) ((pl k) + ((g - (pl k)) / 4)))) mc (run, wc, nu, lc, le, af, tr, ms, cl, tm) (co, yn, yh, pa) ++ R) := hD
      rw [zcb_up] at hP hD
      have hP : va_P D vwCl (zWM cI cJ cZ h th (n, L) ((zcb kt (upd pt k ((pt k) + 1))), (zcb km (upd pm k ((pm k) + 1))), (zcb kl (upd pl k ((pl k) + ((g - (pl k)) / 4))))) mc (run, wc, nu, lc, le, af, tr, ms, cl, tm) (co, yn, yh, pa) ++ R) _ := hP
      have hD : va_D (zAb B) (zWM cI cJ cZ h th (n, L) ((zcb kt (upd pt k ((pt k) + 1))), (zcb km (upd pm k ((pm k) + 1))), (zcb kl (upd pl k ((pl k) + ((g - (pl k)) / 4))))) mc (run, wc, nu, lc, le, af, tr, ms, cl, tm) (co, yn, yh, pa) ++ R) := hD
      exact W.vret hx hb hr (fun t ht hW => ⟨⟨(), rfl, trivial, by rw [ht]; exact hP, hD⟩, hS.F ht⟩) hS.2.2 dX5_learn_47
    · skip
      exfalso; first | omega | (revert c_2; decide) | (exact absurd rfl c_2) | simp_all

set_option maxHeartbeats 1000000 in
set_option maxRecDepth 100000 in
theorem c_X5_told_0 {l : Launch} {B kr kp : Nat} {D : va_G} {cI cJ cZ : ClassId} {h : Nat → Nat} {R : va_W} {th : Int32} {n : Nat} {L : Nat → Int64} {kt : Nat → Int32} {km : Nat → Int32} {kl : Nat → Int32} {pt : Nat → Int32} {pm : Nat → Int32} {pl : Nat → Int32} {nu : Nat → Int32} {le : Nat → Int32} {af : Nat → Int32} {run : Bool} {wc : Nat} {lc : Nat} {tr : Nat} {cl : Nat} {tm : Nat} {ms : Nat} {co : Nat} {yn : Nat} {yh : Nat → Int32} {pa : Int32} {mc : Nat → Int32} {k : Nat} {yl : Nat → Int32} {yc : Nat → Int32} {yt : Nat → Int32}  (hH : zHi yh yl yc yt co) (hk : k < co) (hhn : 3 * co ≤ yn) (hh3 : yn ≤ 1530) : Met l yX5_told wsX5_told ({ frames := 0, cells := 0, slots := 0, locals := 0 }) (zPc B kr kp D (zTy cI cJ cZ) (zWM cI cJ cZ h th (n, L) ((zcb kt pt), (zcb km pm), (zcb kl pl)) mc (run, wc, nu, lc, le, af, tr, ms, cl, tm) (co, yn, yh, pa) ++ R) [.ref (h 0), .int (nI k), .int 0]) (zQi B D (zWM cI cJ cZ h th (n, L) ((zcb kt pt), (zcb km pm), (zcb kl pl)) mc (run, wc, nu, lc, le, af, tr, ms, cl, tm) (co, yn, yh, pa) ++ R) (yl k)) 0 0 (zAb B) := by
  refine Met.ofW (cc := cX5_told) (maxL := 3) (ret := (some .int)) (by decide) rfl ?_
  intro p e s m args below meth c s₁ B0 hml hv
  obtain ⟨rfl, hP, hD, hK, hE, hB⟩ := hv
  have hx := B0.exec
  have hb := B0.bytes
  have hr := B0.returns
  have hts := atoms_spec (ws := wsX5_told) B0.pre
  have hown : s.vm.findClass RX5 = some m.cls := findClass_of_methodNamed B0.named
  have hlocks := B0.notSynchronized
  have hA : ∀ q : Nat, s.heap.size ≤ q → zAb B q := fun q hq => Nat.le_trans hB hq
  have hS : va_S (zAb B) s.heap s.heap [] := va_S.rf
  have hl := lv_entry ([.ref (h 0), .int (nI k), .int 0]) (n := 3) (Nat.le_of_ble_eq_true rfl)
  rw [lg_entry_eq]
  generalize (lg_sl ([.ref (h 0), .int (nI k), .int 0]) ++ List.replicate (3 - (lg_sl ([.ref (h 0), .int (nI k), .int 0])).length) Slot.unset).toArray = ls at hl ⊢
  have hl : lv_has ls 3 [(0, .ref (h 0)), (1, .int (nI k)), (2, .int 0)] := hl
  have hinX5 : ∀ w ∈ wsX50, w ∈ wsX5_told := fun _ h => List.mem_cons_of_mem _ (List.mem_append_right _ h)
  have hP : va_P D vwCl (zWM cI cJ cZ h th (n, L) ((zcb kt pt), (zcb km pm), (zcb kl pl)) mc (run, wc, nu, lc, le, af, tr, ms, cl, tm) (co, yn, yh, pa) ++ R) s.heap := hP
  have hD : va_D (zAb B) (zWM cI cJ cZ h th (n, L) ((zcb kt pt), (zcb km pm), (zcb kl pl)) mc (run, wc, nu, lc, le, af, tr, ms, cl, tm) (co, yn, yh, pa) ++ R) := hD
  refine lv_iload_n hx hb dX5_told_0 rfl (lv_at hl 2 rfl) ?_
  refine lv_iconst (v := 3) hx hb dX5_told_1 (by decide) ?_
  refine lv_icmp_ge (tgt := 18) hx hb dX5_told_2 (by decide) (fun c_1 => ?_) (fun c_1 => ?_)
  · skip
    exfalso; first | omega | (revert c_1; decide) | (exact absurd rfl c_1) | simp_all
  · skip
    refine lv_aload_n hx hb dX5_told_5 rfl (lv_at hl 0 rfl) ?_
    refine va_get (ci := 5) (v := .ref (h 9)) (C := RX5) (T := TX5) (N := 20) hx hb hts hinX5 hown hK hP 0 rfl rfl 18 (by decide) (hts (.fieldLink RX5 36 "TypingTutorModel" "history" "[I") (List.mem_of_getElem? (i := 1) rfl)) (fun _ h9 => h9) rfl dX5_told_6 ?_
    refine lv_iconst (v := 3) hx hb dX5_told_9 (by decide) ?_
    refine lv_iload_n hx hb dX5_told_10 rfl (lv_at hl 1 rfl) ?_
    refine lv_imul hx hb dX5_told_11 ?_
    refine lv_topi (fun v_2 ev_2 => ?_)
    obtain rfl : v_2 = (nI (3 * k)) := ev_2.trans (pk_mul 3 k)
    refine lv_iload_n hx hb dX5_told_12 rfl (lv_at hl 2 rfl) ?_
    refine lv_iadd hx hb dX5_told_13 ?_
    refine lv_topi (fun v_3 ev_3 => ?_)
    obtain rfl : v_3 = (nI ((3 * k) + 0)) := ev_3.trans (nI_add (3 * k) 0)
    refine va_iald hx hb hK hP 9 0 rfl rfl (vp_in_nI (n := ((3 * k) + 0)) (N := yn) (by omega) (by omega)) dX5_told_14 ?_
    rw [pk_cl (x := (nI ((3 * k) + 0))) ((3 * k) + 0) (rfl) (by omega)]
    refine lv_goto (tgt := 40) hx hb dX5_told_15 (by decide) ?_
    exact W.iret (v := (yh ((3 * k) + 0))) hx hb hr (fun t ht hW => ⟨⟨_, (), rfl, zHi_0 hH hk, by rw [ht]; exact hP, hD⟩, hS.F ht⟩) hS.2.2 dX5_told_40

set_option maxHeartbeats 1000000 in
set_option maxRecDepth 100000 in
theorem c_X5_told_1 {l : Launch} {B kr kp : Nat} {D : va_G} {cI cJ cZ : ClassId} {h : Nat → Nat} {R : va_W} {th : Int32} {n : Nat} {L : Nat → Int64} {kt : Nat → Int32} {km : Nat → Int32} {kl : Nat → Int32} {pt : Nat → Int32} {pm : Nat → Int32} {pl : Nat → Int32} {nu : Nat → Int32} {le : Nat → Int32} {af : Nat → Int32} {run : Bool} {wc : Nat} {lc : Nat} {tr : Nat} {cl : Nat} {tm : Nat} {ms : Nat} {co : Nat} {yn : Nat} {yh : Nat → Int32} {pa : Int32} {mc : Nat → Int32} {k : Nat} {yl : Nat → Int32} {yc : Nat → Int32} {yt : Nat → Int32}  (hH : zHi yh yl yc yt co) (hk : k < co) (hhn : 3 * co ≤ yn) (hh3 : yn ≤ 1530) : Met l yX5_told wsX5_told ({ frames := 0, cells := 0, slots := 0, locals := 0 }) (zPc B kr kp D (zTy cI cJ cZ) (zWM cI cJ cZ h th (n, L) ((zcb kt pt), (zcb km pm), (zcb kl pl)) mc (run, wc, nu, lc, le, af, tr, ms, cl, tm) (co, yn, yh, pa) ++ R) [.ref (h 0), .int (nI k), .int 1]) (zQi B D (zWM cI cJ cZ h th (n, L) ((zcb kt pt), (zcb km pm), (zcb kl pl)) mc (run, wc, nu, lc, le, af, tr, ms, cl, tm) (co, yn, yh, pa) ++ R) (yc k)) 0 0 (zAb B) := by
  refine Met.ofW (cc := cX5_told) (maxL := 3) (ret := (some .int)) (by decide) rfl ?_
  intro p e s m args below meth c s₁ B0 hml hv
  obtain ⟨rfl, hP, hD, hK, hE, hB⟩ := hv
  have hx := B0.exec
  have hb := B0.bytes
  have hr := B0.returns
  have hts := atoms_spec (ws := wsX5_told) B0.pre
  have hown : s.vm.findClass RX5 = some m.cls := findClass_of_methodNamed B0.named
  have hlocks := B0.notSynchronized
  have hA : ∀ q : Nat, s.heap.size ≤ q → zAb B q := fun q hq => Nat.le_trans hB hq
  have hS : va_S (zAb B) s.heap s.heap [] := va_S.rf
  have hl := lv_entry ([.ref (h 0), .int (nI k), .int 1]) (n := 3) (Nat.le_of_ble_eq_true rfl)
  rw [lg_entry_eq]
  generalize (lg_sl ([.ref (h 0), .int (nI k), .int 1]) ++ List.replicate (3 - (lg_sl ([.ref (h 0), .int (nI k), .int 1])).length) Slot.unset).toArray = ls at hl ⊢
  have hl : lv_has ls 3 [(0, .ref (h 0)), (1, .int (nI k)), (2, .int 1)] := hl
  have hinX5 : ∀ w ∈ wsX50, w ∈ wsX5_told := fun _ h => List.mem_cons_of_mem _ (List.mem_append_right _ h)
  have hP : va_P D vwCl (zWM cI cJ cZ h th (n, L) ((zcb kt pt), (zcb km pm), (zcb kl pl)) mc (run, wc, nu, lc, le, af, tr, ms, cl, tm) (co, yn, yh, pa) ++ R) s.heap := hP
  have hD : va_D (zAb B) (zWM cI cJ cZ h th (n, L) ((zcb kt pt), (zcb km pm), (zcb kl pl)) mc (run, wc, nu, lc, le, af, tr, ms, cl, tm) (co, yn, yh, pa) ++ R) := hD
  refine lv_iload_n hx hb dX5_told_0 rfl (lv_at hl 2 rfl) ?_
  refine lv_iconst (v := 3) hx hb dX5_told_1 (by decide) ?_
  refine lv_icmp_ge (tgt := 18) hx hb dX5_told_2 (by decide) (fun c_1 => ?_) (fun c_1 => ?_)
  · skip
    exfalso; first | omega | (revert c_1; decide) | (exact absurd rfl c_1) | simp_all
  · skip
    refine lv_aload_n hx hb dX5_told_5 rfl (lv_at hl 0 rfl) ?_
    refine va_get (ci := 5) (v := .ref (h 9)) (C := RX5) (T := TX5) (N := 20) hx hb hts hinX5 hown hK hP 0 rfl rfl 18 (by decide) (hts (.fieldLink RX5 36 "TypingTutorModel" "history" "[I") (List.mem_of_getElem? (i := 1) rfl)) (fun _ h9 => h9) rfl dX5_told_6 ?_
    refine lv_iconst (v := 3) hx hb dX5_told_9 (by decide) ?_
    refine lv_iload_n hx hb dX5_told_10 rfl (lv_at hl 1 rfl) ?_
    refine lv_imul hx hb dX5_told_11 ?_
    refine lv_topi (fun v_2 ev_2 => ?_)
    obtain rfl : v_2 = (nI (3 * k)) := ev_2.trans (pk_mul 3 k)
    refine lv_iload_n hx hb dX5_told_12 rfl (lv_at hl 2 rfl) ?_
    refine lv_iadd hx hb dX5_told_13 ?_
    refine lv_topi (fun v_3 ev_3 => ?_)
    obtain rfl : v_3 = (nI ((3 * k) + 1)) := ev_3.trans (nI_add (3 * k) 1)
    refine va_iald hx hb hK hP 9 0 rfl rfl (vp_in_nI (n := ((3 * k) + 1)) (N := yn) (by omega) (by omega)) dX5_told_14 ?_
    rw [pk_cl (x := (nI ((3 * k) + 1))) ((3 * k) + 1) (rfl) (by omega)]
    refine lv_goto (tgt := 40) hx hb dX5_told_15 (by decide) ?_
    exact W.iret (v := (yh ((3 * k) + 1))) hx hb hr (fun t ht hW => ⟨⟨_, (), rfl, zHi_1 hH hk, by rw [ht]; exact hP, hD⟩, hS.F ht⟩) hS.2.2 dX5_told_40

set_option maxHeartbeats 1000000 in
set_option maxRecDepth 100000 in
theorem c_X5_told_2 {l : Launch} {B kr kp : Nat} {D : va_G} {cI cJ cZ : ClassId} {h : Nat → Nat} {R : va_W} {th : Int32} {n : Nat} {L : Nat → Int64} {kt : Nat → Int32} {km : Nat → Int32} {kl : Nat → Int32} {pt : Nat → Int32} {pm : Nat → Int32} {pl : Nat → Int32} {nu : Nat → Int32} {le : Nat → Int32} {af : Nat → Int32} {run : Bool} {wc : Nat} {lc : Nat} {tr : Nat} {cl : Nat} {tm : Nat} {ms : Nat} {co : Nat} {yn : Nat} {yh : Nat → Int32} {pa : Int32} {mc : Nat → Int32} {k : Nat} {yl : Nat → Int32} {yc : Nat → Int32} {yt : Nat → Int32}  (hH : zHi yh yl yc yt co) (hk : k < co) (hhn : 3 * co ≤ yn) (hh3 : yn ≤ 1530) : Met l yX5_told wsX5_told ({ frames := 0, cells := 0, slots := 0, locals := 0 }) (zPc B kr kp D (zTy cI cJ cZ) (zWM cI cJ cZ h th (n, L) ((zcb kt pt), (zcb km pm), (zcb kl pl)) mc (run, wc, nu, lc, le, af, tr, ms, cl, tm) (co, yn, yh, pa) ++ R) [.ref (h 0), .int (nI k), .int 2]) (zQi B D (zWM cI cJ cZ h th (n, L) ((zcb kt pt), (zcb km pm), (zcb kl pl)) mc (run, wc, nu, lc, le, af, tr, ms, cl, tm) (co, yn, yh, pa) ++ R) (yt k)) 0 0 (zAb B) := by
  refine Met.ofW (cc := cX5_told) (maxL := 3) (ret := (some .int)) (by decide) rfl ?_
  intro p e s m args below meth c s₁ B0 hml hv
  obtain ⟨rfl, hP, hD, hK, hE, hB⟩ := hv
  have hx := B0.exec
  have hb := B0.bytes
  have hr := B0.returns
  have hts := atoms_spec (ws := wsX5_told) B0.pre
  have hown : s.vm.findClass RX5 = some m.cls := findClass_of_methodNamed B0.named
  have hlocks := B0.notSynchronized
  have hA : ∀ q : Nat, s.heap.size ≤ q → zAb B q := fun q hq => Nat.le_trans hB hq
  have hS : va_S (zAb B) s.heap s.heap [] := va_S.rf
  have hl := lv_entry ([.ref (h 0), .int (nI k), .int 2]) (n := 3) (Nat.le_of_ble_eq_true rfl)
  rw [lg_entry_eq]
  generalize (lg_sl ([.ref (h 0), .int (nI k), .int 2]) ++ List.replicate (3 - (lg_sl ([.ref (h 0), .int (nI k), .int 2])).length) Slot.unset).toArray = ls at hl ⊢
  have hl : lv_has ls 3 [(0, .ref (h 0)), (1, .int (nI k)), (2, .int 2)] := hl
  have hinX5 : ∀ w ∈ wsX50, w ∈ wsX5_told := fun _ h => List.mem_cons_of_mem _ (List.mem_append_right _ h)
  have hP : va_P D vwCl (zWM cI cJ cZ h th (n, L) ((zcb kt pt), (zcb km pm), (zcb kl pl)) mc (run, wc, nu, lc, le, af, tr, ms, cl, tm) (co, yn, yh, pa) ++ R) s.heap := hP
  have hD : va_D (zAb B) (zWM cI cJ cZ h th (n, L) ((zcb kt pt), (zcb km pm), (zcb kl pl)) mc (run, wc, nu, lc, le, af, tr, ms, cl, tm) (co, yn, yh, pa) ++ R) := hD
  refine lv_iload_n hx hb dX5_told_0 rfl (lv_at hl 2 rfl) ?_
  refine lv_iconst (v := 3) hx hb dX5_told_1 (by decide) ?_
  refine lv_icmp_ge (tgt := 18) hx hb dX5_told_2 (by decide) (fun c_1 => ?_) (fun c_1 => ?_)
  · skip
    exfalso; first | omega | (revert c_1; decide) | (exact absurd rfl c_1) | simp_all
  · skip
    refine lv_aload_n hx hb dX5_told_5 rfl (lv_at hl 0 rfl) ?_
    refine va_get (ci := 5) (v := .ref (h 9)) (C := RX5) (T := TX5) (N := 20) hx hb hts hinX5 hown hK hP 0 rfl rfl 18 (by decide) (hts (.fieldLink RX5 36 "TypingTutorModel" "history" "[I") (List.mem_of_getElem? (i := 1) rfl)) (fun _ h9 => h9) rfl dX5_told_6 ?_
    refine lv_iconst (v := 3) hx hb dX5_told_9 (by decide) ?_
    refine lv_iload_n hx hb dX5_told_10 rfl (lv_at hl 1 rfl) ?_
    refine lv_imul hx hb dX5_told_11 ?_
    refine lv_topi (fun v_2 ev_2 => ?_)
    obtain rfl : v_2 = (nI (3 * k)) := ev_2.trans (pk_mul 3 k)
    refine lv_iload_n hx hb dX5_told_12 rfl (lv_at hl 2 rfl) ?_
    refine lv_iadd hx hb dX5_told_13 ?_
    refine lv_topi (fun v_3 ev_3 => ?_)
    obtain rfl : v_3 = (nI ((3 * k) + 2)) := ev_3.trans (nI_add (3 * k) 2)
    refine va_iald hx hb hK hP 9 0 rfl rfl (vp_in_nI (n := ((3 * k) + 2)) (N := yn) (by omega) (by omega)) dX5_told_14 ?_
    rw [pk_cl (x := (nI ((3 * k) + 2))) ((3 * k) + 2) (rfl) (by omega)]
    refine lv_goto (tgt := 40) hx hb dX5_told_15 (by decide) ?_
    exact W.iret (v := (yh ((3 * k) + 2))) hx hb hr (fun t ht hW => ⟨⟨_, (), rfl, zHi_2 hH hk, by rw [ht]; exact hP, hD⟩, hS.F ht⟩) hS.2.2 dX5_told_40

set_option maxHeartbeats 1000000 in
set_option maxRecDepth 100000 in
theorem c_X5_told_3 {l : Launch} {B kr kp : Nat} {D : va_G} {cI cJ cZ : ClassId} {h : Nat → Nat} {R : va_W} {th : Int32} {n : Nat} {L : Nat → Int64} {kt : Nat → Int32} {km : Nat → Int32} {kl : Nat → Int32} {pt : Nat → Int32} {pm : Nat → Int32} {pl : Nat → Int32} {nu : Nat → Int32} {le : Nat → Int32} {af : Nat → Int32} {run : Bool} {wc : Nat} {lc : Nat} {tr : Nat} {cl : Nat} {tm : Nat} {ms : Nat} {co : Nat} {yn : Nat} {yh : Nat → Int32} {pa : Int32} {mc : Nat → Int32} {k : Nat} {yl : Nat → Int32} {yc : Nat → Int32} {yt : Nat → Int32}  (hH : zHi yh yl yc yt co) (hk : k < co) (hhn : 3 * co ≤ yn) (hh3 : yn ≤ 1530) : Met l yX5_told wsX5_told ({ frames := 0, cells := 0, slots := 0, locals := 0 }) (zPc B kr kp D (zTy cI cJ cZ) (zWM cI cJ cZ h th (n, L) ((zcb kt pt), (zcb km pm), (zcb kl pl)) mc (run, wc, nu, lc, le, af, tr, ms, cl, tm) (co, yn, yh, pa) ++ R) [.ref (h 0), .int (nI k), .int 3]) (zQi B D (zWM cI cJ cZ h th (n, L) ((zcb kt pt), (zcb km pm), (zcb kl pl)) mc (run, wc, nu, lc, le, af, tr, ms, cl, tm) (co, yn, yh, pa) ++ R) (zsp yl yt k)) 0 0 (zAb B) := by
  refine Met.ofW (cc := cX5_told) (maxL := 3) (ret := (some .int)) (by decide) rfl ?_
  intro p e s m args below meth c s₁ B0 hml hv
  obtain ⟨rfl, hP, hD, hK, hE, hB⟩ := hv
  have hx := B0.exec
  have hb := B0.bytes
  have hr := B0.returns
  have hts := atoms_spec (ws := wsX5_told) B0.pre
  have hown : s.vm.findClass RX5 = some m.cls := findClass_of_methodNamed B0.named
  have hlocks := B0.notSynchronized
  have hA : ∀ q : Nat, s.heap.size ≤ q → zAb B q := fun q hq => Nat.le_trans hB hq
  have hS : va_S (zAb B) s.heap s.heap [] := va_S.rf
  have hl := lv_entry ([.ref (h 0), .int (nI k), .int 3]) (n := 3) (Nat.le_of_ble_eq_true rfl)
  rw [lg_entry_eq]
  generalize (lg_sl ([.ref (h 0), .int (nI k), .int 3]) ++ List.replicate (3 - (lg_sl ([.ref (h 0), .int (nI k), .int 3])).length) Slot.unset).toArray = ls at hl ⊢
  have hl : lv_has ls 3 [(0, .ref (h 0)), (1, .int (nI k)), (2, .int 3)] := hl
  have hinX5 : ∀ w ∈ wsX50, w ∈ wsX5_told := fun _ h => List.mem_cons_of_mem _ (List.mem_append_right _ h)
  have hP : va_P D vwCl (zWM cI cJ cZ h th (n, L) ((zcb kt pt), (zcb km pm), (zcb kl pl)) mc (run, wc, nu, lc, le, af, tr, ms, cl, tm) (co, yn, yh, pa) ++ R) s.heap := hP
  have hD : va_D (zAb B) (zWM cI cJ cZ h th (n, L) ((zcb kt pt), (zcb km pm), (zcb kl pl)) mc (run, wc, nu, lc, le, af, tr, ms, cl, tm) (co, yn, yh, pa) ++ R) := hD
  refine lv_iload_n hx hb dX5_told_0 rfl (lv_at hl 2 rfl) ?_
  refine lv_iconst (v := 3) hx hb dX5_told_1 (by decide) ?_
  refine lv_icmp_ge (tgt := 18) hx hb dX5_told_2 (by decide) (fun c_1 => ?_) (fun c_1 => ?_)
  · skip
    refine lv_aload_n hx hb dX5_told_18 rfl (lv_at hl 0 rfl) ?_
    refine va_get (ci := 5) (v := .ref (h 9)) (C := RX5) (T := TX5) (N := 20) hx hb hts hinX5 hown hK hP 0 rfl rfl 18 (by decide) (hts (.fieldLink RX5 36 "TypingTutorModel" "history" "[I") (List.mem_of_getElem? (i := 1) rfl)) (fun _ h9 => h9) rfl dX5_told_19 ?_
    refine lv_iconst (v := 3) hx hb dX5_told_22 (by decide) ?_
    refine lv_iload_n hx hb dX5_told_23 rfl (lv_at hl 1 rfl) ?_
    refine lv_imul hx hb dX5_told_24 ?_
    refine lv_topi (fun v_2 ev_2 => ?_)
    obtain rfl : v_2 = (nI (3 * k)) := ev_2.trans (pk_mul 3 k)
    refine va_iald hx hb hK hP 9 0 rfl rfl (vp_in_nI (n := (3 * k)) (N := yn) (by omega) (by omega)) dX5_told_25 ?_
    rw [pk_cl (x := (nI (3 * k))) (3 * k) (rfl) (by omega)]
    refine lv_ldc hx hb hown (hts (.constant RX5 166 (60000)) (List.mem_of_getElem? (i := 2) rfl)) dX5_told_26 ?_
    refine lv_imul hx hb dX5_told_28 ?_
    refine lv_aload_n hx hb dX5_told_29 rfl (lv_at hl 0 rfl) ?_
    refine va_get (ci := 5) (v := .ref (h 9)) (C := RX5) (T := TX5) (N := 20) hx hb hts hinX5 hown hK hP 0 rfl rfl 18 (by decide) (hts (.fieldLink RX5 36 "TypingTutorModel" "history" "[I") (List.mem_of_getElem? (i := 1) rfl)) (fun _ h9 => h9) rfl dX5_told_30 ?_
    refine lv_iconst (v := 3) hx hb dX5_told_33 (by decide) ?_
    refine lv_iload_n hx hb dX5_told_34 rfl (lv_at hl 1 rfl) ?_
    refine lv_imul hx hb dX5_told_35 ?_
    refine lv_topi (fun v_3 ev_3 => ?_)
    obtain rfl : v_3 = (nI (3 * k)) := ev_3.trans (pk_mul 3 k)
    refine lv_iconst (v := 2) hx hb dX5_told_36 (by decide) ?_
    refine lv_iadd hx hb dX5_told_37 ?_
    refine lv_topi (fun v_4 ev_4 => ?_)
    obtain rfl : v_4 = (nI ((3 * k) + 2)) := ev_4.trans (nI_add (3 * k) 2)
    refine va_iald hx hb hK hP 9 0 rfl rfl (vp_in_nI (n := ((3 * k) + 2)) (N := yn) (by omega) (by omega)) dX5_told_38 ?_
    rw [pk_cl (x := (nI ((3 * k) + 2))) ((3 * k) + 2) (rfl) (by omega)]
    refine lv_idiv hx hb dX5_told_39 (by show ¬ yh (3 * k + 2) = 0; rw [zHi_2 hH hk]; exact zHi_p hH hk) ?_
    exact W.iret (v := (((yh (3 * k)) * 60000) / (yh ((3 * k) + 2)))) hx hb hr (fun t ht hW => ⟨⟨_, (), rfl, zHi_3 hH hk, by rw [ht]; exact hP, hD⟩, hS.F ht⟩) hS.2.2 dX5_told_40
  · skip
    exfalso; first | omega | (revert c_1; decide) | (exact absurd rfl c_1) | simp_all

set_option maxHeartbeats 1000000 in
set_option maxRecDepth 100000 in
theorem c_X5_giveUp {l : Launch} {B kr kp : Nat} {D : va_G} {cI cJ cZ : ClassId} {h : Nat → Nat} {R : va_W} {th : Int32} {n : Nat} {L : Nat → Int64} {kt : Nat → Int32} {km : Nat → Int32} {kl : Nat → Int32} {pt : Nat → Int32} {pm : Nat → Int32} {pl : Nat → Int32} {nu : Nat → Int32} {le : Nat → Int32} {af : Nat → Int32} {run : Bool} {wc : Nat} {lc : Nat} {tr : Nat} {cl : Nat} {tm : Nat} {ms : Nat} {co : Nat} {yn : Nat} {yh : Nat → Int32} {pa : Int32} {mc : Nat → Int32}    (hrun : run = true) (htr : tr ≤ lc) : Met l yX5_giveUp wsX5_giveUp ({ frames := 0, cells := 0, slots := 0, locals := 0 }) (zPc B kr kp D (zTy cI cJ cZ) (zWM cI cJ cZ h th (n, L) ((zcb kt pt), (zcb km pm), (zcb kl pl)) mc (run, wc, nu, lc, le, af, tr, ms, cl, tm) (co, yn, yh, pa) ++ R) [.ref (h 0)]) (zQi B D (zWM cI cJ cZ h 0 (n, L) ((zcb kt pt), (zcb km pm), (zcb kl pl)) mc (false, wc, nu, lc, le, af, tr, ms, cl, tm) (co, yn, yh, pa) ++ R) (nI (lc - tr))) 0 0 (zAb B) := by
  refine Met.ofW (cc := cX5_giveUp) (maxL := 1) (ret := (some .int)) (by decide) rfl ?_
  intro p e s m args below meth c s₁ B0 hml hv
  obtain ⟨rfl, hP, hD, hK, hE, hB⟩ := hv
  have hx := B0.exec
  have hb := B0.bytes
  have hr := B0.returns
  have hts := atoms_spec (ws := wsX5_giveUp) B0.pre
  have hown : s.vm.findClass RX5 = some m.cls := findClass_of_methodNamed B0.named
  have hlocks := B0.notSynchronized
  have hA : ∀ q : Nat, s.heap.size ≤ q → zAb B q := fun q hq => Nat.le_trans hB hq
  have hS : va_S (zAb B) s.heap s.heap [] := va_S.rf
  have hl := lv_entry ([.ref (h 0)]) (n := 1) (Nat.le_of_ble_eq_true rfl)
  rw [lg_entry_eq]
  generalize (lg_sl ([.ref (h 0)]) ++ List.replicate (1 - (lg_sl ([.ref (h 0)])).length) Slot.unset).toArray = ls at hl ⊢
  have hl : lv_has ls 1 [(0, .ref (h 0))] := hl
  have hinX5 : ∀ w ∈ wsX50, w ∈ wsX5_giveUp := fun _ h => List.mem_cons_of_mem _ (List.mem_append_right _ h)
  have hP : va_P D vwCl (zWM cI cJ cZ h th (n, L) ((zcb kt pt), (zcb km pm), (zcb kl pl)) mc (run, wc, nu, lc, le, af, tr, ms, cl, tm) (co, yn, yh, pa) ++ R) s.heap := hP
  have hD : va_D (zAb B) (zWM cI cJ cZ h th (n, L) ((zcb kt pt), (zcb km pm), (zcb kl pl)) mc (run, wc, nu, lc, le, af, tr, ms, cl, tm) (co, yn, yh, pa) ++ R) := hD
  refine lv_aload_n hx hb dX5_giveUp_0 rfl (lv_at hl 0 rfl) ?_
  refine lv_iconst (v := 0) hx hb dX5_giveUp_1 (by decide) ?_
  refine va_put (ci := 5) (v := .int 0) (ty := .int) (C := RX5) (T := TX5) (N := 20) hx hb hts hinX5 tyX5 tyX5_ok nmX5 hown hK hP hD hS 0 rfl rfl 0 (by decide) (hts (.fieldLink RX5 43 "TypingTutorModel" "thrown" "I") (List.mem_of_getElem? (i := 1) rfl)) (fun _ h9 => h9) rfl (by decide +kernel) rfl rfl (Nat.le_of_ble_eq_true rfl) dX5_giveUp_2 (fun H locs hP hD hS => ?_)
  have hP : va_P D vwCl (zWM cI cJ cZ h 0 (n, L) ((zcb kt pt), (zcb km pm), (zcb kl pl)) mc (run, wc, nu, lc, le, af, tr, ms, cl, tm) (co, yn, yh, pa) ++ R) _ := hP
  have hD : va_D (zAb B) (zWM cI cJ cZ h 0 (n, L) ((zcb kt pt), (zcb km pm), (zcb kl pl)) mc (run, wc, nu, lc, le, af, tr, ms, cl, tm) (co, yn, yh, pa) ++ R) := hD
  refine lv_aload_n hx hb dX5_giveUp_5 rfl (lv_at hl 0 rfl) ?_
  refine va_get (ci := 5) (v := .int (zb run)) (C := RX5) (T := TX5) (N := 20) hx hb hts hinX5 hown hK hP 0 rfl rfl 7 (by decide) (hts (.fieldLink RX5 106 "TypingTutorModel" "isOpen" "Z") (List.mem_of_getElem? (i := 2) rfl)) (fun _ h9 => h9) rfl dX5_giveUp_6 ?_
  refine lv_if_ne (tgt := 18) hx hb dX5_giveUp_9 (by decide) (fun c_1 => ?_) (fun c_1 => ?_)
  · skip
    have c_1 : run = true := zb_n c_1
    refine lv_aload_n hx hb dX5_giveUp_18 rfl (lv_at hl 0 rfl) ?_
    refine lv_iconst (v := 0) hx hb dX5_giveUp_19 (by decide) ?_
    refine va_put (ci := 5) (v := .int 0) (ty := .boolean) (C := RX5) (T := TX5) (N := 20) hx hb hts hinX5 tyX5 tyX5_ok nmX5 hown hK hP hD hS 0 rfl rfl 7 (by decide) (hts (.fieldLink RX5 106 "TypingTutorModel" "isOpen" "Z") (List.mem_of_getElem? (i := 2) rfl)) (fun _ h9 => h9) rfl (by decide +kernel) rfl rfl (Nat.le_of_ble_eq_true rfl) dX5_giveUp_20 (fun H locs hP hD hS => ?_)
    have hP : va_P D vwCl (zWM cI cJ cZ h 0 (n, L) ((zcb kt pt), (zcb km pm), (zcb kl pl)) mc (false, wc, nu, lc, le, af, tr, ms, cl, tm) (co, yn, yh, pa) ++ R) _ := hP
    have hD : va_D (zAb B) (zWM cI cJ cZ h 0 (n, L) ((zcb kt pt), (zcb km pm), (zcb kl pl)) mc (false, wc, nu, lc, le, af, tr, ms, cl, tm) (co, yn, yh, pa) ++ R) := hD
    refine lv_aload_n hx hb dX5_giveUp_23 rfl (lv_at hl 0 rfl) ?_
    refine va_get (ci := 5) (v := .int (nI lc)) (C := RX5) (T := TX5) (N := 20) hx hb hts hinX5 hown hK hP 0 rfl rfl 10 (by decide) (hts (.fieldLink RX5 103 "TypingTutorModel" "letters" "I") (List.mem_of_getElem? (i := 3) rfl)) (fun _ h9 => h9) rfl dX5_giveUp_24 ?_
    refine lv_aload_n hx hb dX5_giveUp_27 rfl (lv_at hl 0 rfl) ?_
    refine va_get (ci := 5) (v := .int (nI tr)) (C := RX5) (T := TX5) (N := 20) hx hb hts hinX5 hown hK hP 0 rfl rfl 13 (by decide) (hts (.fieldLink RX5 110 "TypingTutorModel" "at" "I") (List.mem_of_getElem? (i := 4) rfl)) (fun _ h9 => h9) rfl dX5_giveUp_28 ?_
    refine lv_isub hx hb dX5_giveUp_31 ?_
    refine lv_topi (fun v_2 ev_2 => ?_)
    obtain rfl : v_2 = (nI (lc - tr)) := ev_2.trans (pk_sub (a := lc) (b := tr) (by omega))
    exact W.iret (v := (nI (lc - tr))) hx hb hr (fun t ht hW => ⟨⟨_, (), rfl, rfl, by rw [ht]; exact hP, hD⟩, hS.F ht⟩) hS.2.2 dX5_giveUp_32
  · skip
    have c_1 : run = false := zb_0 c_1
    exact absurd (c_1.symm.trans hrun) (by decide)

set_option maxHeartbeats 1000000 in
set_option maxRecDepth 100000 in
theorem c_X5_giveUp_x {l : Launch} {B kr kp : Nat} {D : va_G} {cI cJ cZ : ClassId} {h : Nat → Nat} {R : va_W} {th : Int32} {n : Nat} {L : Nat → Int64} {kt : Nat → Int32} {km : Nat → Int32} {kl : Nat → Int32} {pt : Nat → Int32} {pm : Nat → Int32} {pl : Nat → Int32} {nu : Nat → Int32} {le : Nat → Int32} {af : Nat → Int32} {run : Bool} {wc : Nat} {lc : Nat} {tr : Nat} {cl : Nat} {tm : Nat} {ms : Nat} {co : Nat} {yn : Nat} {yh : Nat → Int32} {pa : Int32} {mc : Nat → Int32}    (hrun : run = false) : Met l yX5_giveUp wsX5_giveUp ({ frames := 1, cells := 0, slots := 0, locals := 21 }) (zPc B kr kp D (zTy cI cJ cZ) (zWM cI cJ cZ h th (n, L) ((zcb kt pt), (zcb km pm), (zcb kl pl)) mc (run, wc, nu, lc, le, af, tr, ms, cl, tm) (co, yn, yh, pa) ++ R) [.ref (h 0)]) (zQi B D (zWM cI cJ cZ h 1 (n, L) ((zcb kt pt), (zcb km pm), (zcb kl pl)) mc (run, wc, nu, lc, le, af, tr, ms, cl, tm) (co, yn, yh, pa) ++ R) 0) 0 0 (zAb B) := by
  refine Met.ofW (cc := cX5_giveUp) (maxL := 1) (ret := (some .int)) (by decide) rfl ?_
  intro p e s m args below meth c s₁ B0 hml hv
  obtain ⟨rfl, hP, hD, hK, hE, hB⟩ := hv
  have hx := B0.exec
  have hb := B0.bytes
  have hr := B0.returns
  have hts := atoms_spec (ws := wsX5_giveUp) B0.pre
  have hown : s.vm.findClass RX5 = some m.cls := findClass_of_methodNamed B0.named
  have hlocks := B0.notSynchronized
  have hA : ∀ q : Nat, s.heap.size ≤ q → zAb B q := fun q hq => Nat.le_trans hB hq
  have hS : va_S (zAb B) s.heap s.heap [] := va_S.rf
  have hl := lv_entry ([.ref (h 0)]) (n := 1) (Nat.le_of_ble_eq_true rfl)
  rw [lg_entry_eq]
  generalize (lg_sl ([.ref (h 0)]) ++ List.replicate (1 - (lg_sl ([.ref (h 0)])).length) Slot.unset).toArray = ls at hl ⊢
  have hl : lv_has ls 1 [(0, .ref (h 0))] := hl
  have hinX5 : ∀ w ∈ wsX50, w ∈ wsX5_giveUp := fun _ h => List.mem_cons_of_mem _ (List.mem_append_right _ h)
  have hP : va_P D vwCl (zWM cI cJ cZ h th (n, L) ((zcb kt pt), (zcb km pm), (zcb kl pl)) mc (run, wc, nu, lc, le, af, tr, ms, cl, tm) (co, yn, yh, pa) ++ R) s.heap := hP
  have hD : va_D (zAb B) (zWM cI cJ cZ h th (n, L) ((zcb kt pt), (zcb km pm), (zcb kl pl)) mc (run, wc, nu, lc, le, af, tr, ms, cl, tm) (co, yn, yh, pa) ++ R) := hD
  refine lv_aload_n hx hb dX5_giveUp_0 rfl (lv_at hl 0 rfl) ?_
  refine lv_iconst (v := 0) hx hb dX5_giveUp_1 (by decide) ?_
  refine va_put (ci := 5) (v := .int 0) (ty := .int) (C := RX5) (T := TX5) (N := 20) hx hb hts hinX5 tyX5 tyX5_ok nmX5 hown hK hP hD hS 0 rfl rfl 0 (by decide) (hts (.fieldLink RX5 43 "TypingTutorModel" "thrown" "I") (List.mem_of_getElem? (i := 1) rfl)) (fun _ h9 => h9) rfl (by decide +kernel) rfl rfl (Nat.le_of_ble_eq_true rfl) dX5_giveUp_2 (fun H locs hP hD hS => ?_)
  have hP : va_P D vwCl (zWM cI cJ cZ h 0 (n, L) ((zcb kt pt), (zcb km pm), (zcb kl pl)) mc (run, wc, nu, lc, le, af, tr, ms, cl, tm) (co, yn, yh, pa) ++ R) _ := hP
  have hD : va_D (zAb B) (zWM cI cJ cZ h 0 (n, L) ((zcb kt pt), (zcb km pm), (zcb kl pl)) mc (run, wc, nu, lc, le, af, tr, ms, cl, tm) (co, yn, yh, pa) ++ R) := hD
  refine lv_aload_n hx hb dX5_giveUp_5 rfl (lv_at hl 0 rfl) ?_
  refine va_get (ci := 5) (v := .int (zb run)) (C := RX5) (T := TX5) (N := 20) hx hb hts hinX5 hown hK hP 0 rfl rfl 7 (by decide) (hts (.fieldLink RX5 106 "TypingTutorModel" "isOpen" "Z") (List.mem_of_getElem? (i := 2) rfl)) (fun _ h9 => h9) rfl dX5_giveUp_6 ?_
  refine lv_if_ne (tgt := 18) hx hb dX5_giveUp_9 (by decide) (fun c_1 => ?_) (fun c_1 => ?_)
  · skip
    have c_1 : run = true := zb_n c_1
    exact absurd (c_1.symm.trans hrun) (by decide)
  · skip
    have c_1 : run = false := zb_0 c_1
    refine lv_aload_n hx hb dX5_giveUp_12 rfl (lv_at hl 0 rfl) ?_
    refine lv_iconst (v := 1) hx hb dX5_giveUp_13 (by decide) ?_
    refine zci (zrV (As := [.int 1]) (rest := []) ⟨hx, hb, hml, hown, hts⟩ (zV 0 hP hD hK hE hB hS rfl rfl) (c_X5_fail  ) (cwV 1 hts gX5_giveUp_X5_fail rfl rfl rfl hdv_X5_fail ⟨Nat.le_of_ble_eq_true rfl, Nat.le_of_ble_eq_true rfl⟩) rfl rfl hl.1 rfl (lv_room (Nat.le_of_ble_eq_true rfl)) dX5_giveUp_14 ⟨Nat.le_of_ble_eq_true rfl, Nat.le_of_ble_eq_true rfl⟩) hS (fun H locs hP hD hS => ?_)
    have hP : va_P D vwCl (zWM cI cJ cZ h 1 (n, L) ((zcb kt pt), (zcb km pm), (zcb kl pl)) mc (run, wc, nu, lc, le, af, tr, ms, cl, tm) (co, yn, yh, pa) ++ R) _ := hP
    have hD : va_D (zAb B) (zWM cI cJ cZ h 1 (n, L) ((zcb kt pt), (zcb km pm), (zcb kl pl)) mc (run, wc, nu, lc, le, af, tr, ms, cl, tm) (co, yn, yh, pa) ++ R) := hD
    exact W.iret (v := 0) hx hb hr (fun t ht hW => ⟨⟨_, (), rfl, rfl, by rw [ht]; exact hP, hD⟩, hS.F ht⟩) hS.2.2 dX5_giveUp_17

set_option maxHeartbeats 1000000 in
set_option maxRecDepth 100000 in
theorem c_X5_wanted_x {l : Launch} {B kr kp : Nat} {D : va_G} {cI cJ cZ : ClassId} {h : Nat → Nat} {R : va_W} {th : Int32} {n : Nat} {L : Nat → Int64} {kt : Nat → Int32} {km : Nat → Int32} {kl : Nat → Int32} {pt : Nat → Int32} {pm : Nat → Int32} {pl : Nat → Int32} {nu : Nat → Int32} {le : Nat → Int32} {af : Nat → Int32} {run : Bool} {wc : Nat} {lc : Nat} {tr : Nat} {cl : Nat} {tm : Nat} {ms : Nat} {co : Nat} {yn : Nat} {yh : Nat → Int32} {pa : Int32} {mc : Nat → Int32}    (hrun : run = false) : Met l yX5_wanted wsX5_wanted ({ frames := 1, cells := 0, slots := 0, locals := 21 }) (zPc B kr kp D (zTy cI cJ cZ) (zWM cI cJ cZ h th (n, L) ((zcb kt pt), (zcb km pm), (zcb kl pl)) mc (run, wc, nu, lc, le, af, tr, ms, cl, tm) (co, yn, yh, pa) ++ R) [.ref (h 0)]) (zQi B D (zWM cI cJ cZ h 1 (n, L) ((zcb kt pt), (zcb km pm), (zcb kl pl)) mc (run, wc, nu, lc, le, af, tr, ms, cl, tm) (co, yn, yh, pa) ++ R) 0) 0 0 (zAb B) := by
  refine Met.ofW (cc := cX5_wanted) (maxL := 1) (ret := (some .int)) (by decide) rfl ?_
  intro p e s m args below meth c s₁ B0 hml hv
  obtain ⟨rfl, hP, hD, hK, hE, hB⟩ := hv
  have hx := B0.exec
  have hb := B0.bytes
  have hr := B0.returns
  have hts := atoms_spec (ws := wsX5_wanted) B0.pre
  have hown : s.vm.findClass RX5 = some m.cls := findClass_of_methodNamed B0.named
  have hlocks := B0.notSynchronized
  have hA : ∀ q : Nat, s.heap.size ≤ q → zAb B q := fun q hq => Nat.le_trans hB hq
  have hS : va_S (zAb B) s.heap s.heap [] := va_S.rf
  have hl := lv_entry ([.ref (h 0)]) (n := 1) (Nat.le_of_ble_eq_true rfl)
  rw [lg_entry_eq]
  generalize (lg_sl ([.ref (h 0)]) ++ List.replicate (1 - (lg_sl ([.ref (h 0)])).length) Slot.unset).toArray = ls at hl ⊢
  have hl : lv_has ls 1 [(0, .ref (h 0))] := hl
  have hinX5 : ∀ w ∈ wsX50, w ∈ wsX5_wanted := fun _ h => List.mem_cons_of_mem _ (List.mem_append_right _ h)
  have hP : va_P D vwCl (zWM cI cJ cZ h th (n, L) ((zcb kt pt), (zcb km pm), (zcb kl pl)) mc (run, wc, nu, lc, le, af, tr, ms, cl, tm) (co, yn, yh, pa) ++ R) s.heap := hP
  have hD : va_D (zAb B) (zWM cI cJ cZ h th (n, L) ((zcb kt pt), (zcb km pm), (zcb kl pl)) mc (run, wc, nu, lc, le, af, tr, ms, cl, tm) (co, yn, yh, pa) ++ R) := hD
  refine lv_aload_n hx hb dX5_wanted_0 rfl (lv_at hl 0 rfl) ?_
  refine lv_iconst (v := 0) hx hb dX5_wanted_1 (by decide) ?_
  refine va_put (ci := 5) (v := .int 0) (ty := .int) (C := RX5) (T := TX5) (N := 20) hx hb hts hinX5 tyX5 tyX5_ok nmX5 hown hK hP hD hS 0 rfl rfl 0 (by decide) (hts (.fieldLink RX5 43 "TypingTutorModel" "thrown" "I") (List.mem_of_getElem? (i := 1) rfl)) (fun _ h9 => h9) rfl (by decide +kernel) rfl rfl (Nat.le_of_ble_eq_true rfl) dX5_wanted_2 (fun H locs hP hD hS => ?_)
  have hP : va_P D vwCl (zWM cI cJ cZ h 0 (n, L) ((zcb kt pt), (zcb km pm), (zcb kl pl)) mc (run, wc, nu, lc, le, af, tr, ms, cl, tm) (co, yn, yh, pa) ++ R) _ := hP
  have hD : va_D (zAb B) (zWM cI cJ cZ h 0 (n, L) ((zcb kt pt), (zcb km pm), (zcb kl pl)) mc (run, wc, nu, lc, le, af, tr, ms, cl, tm) (co, yn, yh, pa) ++ R) := hD
  refine lv_aload_n hx hb dX5_wanted_5 rfl (lv_at hl 0 rfl) ?_
  refine va_get (ci := 5) (v := .int (zb run)) (C := RX5) (T := TX5) (N := 20) hx hb hts hinX5 hown hK hP 0 rfl rfl 7 (by decide) (hts (.fieldLink RX5 106 "TypingTutorModel" "isOpen" "Z") (List.mem_of_getElem? (i := 2) rfl)) (fun _ h9 => h9) rfl dX5_wanted_6 ?_
  refine lv_if_eq (tgt := 24) hx hb dX5_wanted_9 (by decide) (fun c_1 => ?_) (fun c_1 => ?_)
  · skip
    have c_1 : run = false := zb_0 c_1
    refine lv_aload_n hx hb dX5_wanted_24 rfl (lv_at hl 0 rfl) ?_
    refine lv_iconst (v := 1) hx hb dX5_wanted_25 (by decide) ?_
    refine zci (zrV (As := [.int 1]) (rest := []) ⟨hx, hb, hml, hown, hts⟩ (zV 0 hP hD hK hE hB hS rfl rfl) (c_X5_fail  ) (cwV 1 hts gX5_wanted_X5_fail rfl rfl rfl hdv_X5_fail ⟨Nat.le_of_ble_eq_true rfl, Nat.le_of_ble_eq_true rfl⟩) rfl rfl hl.1 rfl (lv_room (Nat.le_of_ble_eq_true rfl)) dX5_wanted_26 ⟨Nat.le_of_ble_eq_true rfl, Nat.le_of_ble_eq_true rfl⟩) hS (fun H locs hP hD hS => ?_)
    have hP : va_P D vwCl (zWM cI cJ cZ h 1 (n, L) ((zcb kt pt), (zcb km pm), (zcb kl pl)) mc (run, wc, nu, lc, le, af, tr, ms, cl, tm) (co, yn, yh, pa) ++ R) _ := hP
    have hD : va_D (zAb B) (zWM cI cJ cZ h 1 (n, L) ((zcb kt pt), (zcb km pm), (zcb kl pl)) mc (run, wc, nu, lc, le, af, tr, ms, cl, tm) (co, yn, yh, pa) ++ R) := hD
    exact W.iret (v := 0) hx hb hr (fun t ht hW => ⟨⟨_, (), rfl, rfl, by rw [ht]; exact hP, hD⟩, hS.F ht⟩) hS.2.2 dX5_wanted_29
  · skip
    have c_1 : run = true := zb_n c_1
    exact absurd (c_1.symm.trans hrun) (by decide)

set_option maxHeartbeats 1000000 in
set_option maxRecDepth 100000 in
theorem c_X5_done_x {l : Launch} {B kr kp : Nat} {D : va_G} {cI cJ cZ : ClassId} {h : Nat → Nat} {R : va_W} {th : Int32} {n : Nat} {L : Nat → Int64} {kt : Nat → Int32} {km : Nat → Int32} {kl : Nat → Int32} {pt : Nat → Int32} {pm : Nat → Int32} {pl : Nat → Int32} {nu : Nat → Int32} {le : Nat → Int32} {af : Nat → Int32} {run : Bool} {wc : Nat} {lc : Nat} {tr : Nat} {cl : Nat} {tm : Nat} {ms : Nat} {co : Nat} {yn : Nat} {yh : Nat → Int32} {pa : Int32} {mc : Nat → Int32}    (hrun : run = false) : Met l yX5_done wsX5_done ({ frames := 1, cells := 0, slots := 0, locals := 21 }) (zPc B kr kp D (zTy cI cJ cZ) (zWM cI cJ cZ h th (n, L) ((zcb kt pt), (zcb km pm), (zcb kl pl)) mc (run, wc, nu, lc, le, af, tr, ms, cl, tm) (co, yn, yh, pa) ++ R) [.ref (h 0)]) (zQi B D (zWM cI cJ cZ h 1 (n, L) ((zcb kt pt), (zcb km pm), (zcb kl pl)) mc (run, wc, nu, lc, le, af, tr, ms, cl, tm) (co, yn, yh, pa) ++ R) 0) 0 0 (zAb B) := by
  refine Met.ofW (cc := cX5_done) (maxL := 1) (ret := (some .int)) (by decide) rfl ?_
  intro p e s m args below meth c s₁ B0 hml hv
  obtain ⟨rfl, hP, hD, hK, hE, hB⟩ := hv
  have hx := B0.exec
  have hb := B0.bytes
  have hr := B0.returns
  have hts := atoms_spec (ws := wsX5_done) B0.pre
  have hown : s.vm.findClass RX5 = some m.cls := findClass_of_methodNamed B0.named
  have hlocks := B0.notSynchronized
  have hA : ∀ q : Nat, s.heap.size ≤ q → zAb B q := fun q hq => Nat.le_trans hB hq
  have hS : va_S (zAb B) s.heap s.heap [] := va_S.rf
  have hl := lv_entry ([.ref (h 0)]) (n := 1) (Nat.le_of_ble_eq_true rfl)
  rw [lg_entry_eq]
  generalize (lg_sl ([.ref (h 0)]) ++ List.replicate (1 - (lg_sl ([.ref (h 0)])).length) Slot.unset).toArray = ls at hl ⊢
  have hl : lv_has ls 1 [(0, .ref (h 0))] := hl
  have hinX5 : ∀ w ∈ wsX50, w ∈ wsX5_done := fun _ h => List.mem_cons_of_mem _ (List.mem_append_right _ h)
  have hP : va_P D vwCl (zWM cI cJ cZ h th (n, L) ((zcb kt pt), (zcb km pm), (zcb kl pl)) mc (run, wc, nu, lc, le, af, tr, ms, cl, tm) (co, yn, yh, pa) ++ R) s.heap := hP
  have hD : va_D (zAb B) (zWM cI cJ cZ h th (n, L) ((zcb kt pt), (zcb km pm), (zcb kl pl)) mc (run, wc, nu, lc, le, af, tr, ms, cl, tm) (co, yn, yh, pa) ++ R) := hD
  refine lv_aload_n hx hb dX5_done_0 rfl (lv_at hl 0 rfl) ?_
  refine lv_iconst (v := 0) hx hb dX5_done_1 (by decide) ?_
  refine va_put (ci := 5) (v := .int 0) (ty := .int) (C := RX5) (T := TX5) (N := 20) hx hb hts hinX5 tyX5 tyX5_ok nmX5 hown hK hP hD hS 0 rfl rfl 0 (by decide) (hts (.fieldLink RX5 43 "TypingTutorModel" "thrown" "I") (List.mem_of_getElem? (i := 1) rfl)) (fun _ h9 => h9) rfl (by decide +kernel) rfl rfl (Nat.le_of_ble_eq_true rfl) dX5_done_2 (fun H locs hP hD hS => ?_)
  have hP : va_P D vwCl (zWM cI cJ cZ h 0 (n, L) ((zcb kt pt), (zcb km pm), (zcb kl pl)) mc (run, wc, nu, lc, le, af, tr, ms, cl, tm) (co, yn, yh, pa) ++ R) _ := hP
  have hD : va_D (zAb B) (zWM cI cJ cZ h 0 (n, L) ((zcb kt pt), (zcb km pm), (zcb kl pl)) mc (run, wc, nu, lc, le, af, tr, ms, cl, tm) (co, yn, yh, pa) ++ R) := hD
  refine lv_aload_n hx hb dX5_done_5 rfl (lv_at hl 0 rfl) ?_
  refine va_get (ci := 5) (v := .int (zb run)) (C := RX5) (T := TX5) (N := 20) hx hb hts hinX5 hown hK hP 0 rfl rfl 7 (by decide) (hts (.fieldLink RX5 106 "TypingTutorModel" "isOpen" "Z") (List.mem_of_getElem? (i := 2) rfl)) (fun _ h9 => h9) rfl dX5_done_6 ?_
  refine lv_if_eq (tgt := 19) hx hb dX5_done_9 (by decide) (fun c_1 => ?_) (fun c_1 => ?_)
  · skip
    have c_1 : run = false := zb_0 c_1
    refine lv_aload_n hx hb dX5_done_19 rfl (lv_at hl 0 rfl) ?_
    refine lv_iconst (v := 1) hx hb dX5_done_20 (by decide) ?_
    refine zci (zrV (As := [.int 1]) (rest := []) ⟨hx, hb, hml, hown, hts⟩ (zV 0 hP hD hK hE hB hS rfl rfl) (c_X5_fail  ) (cwV 1 hts gX5_done_X5_fail rfl rfl rfl hdv_X5_fail ⟨Nat.le_of_ble_eq_true rfl, Nat.le_of_ble_eq_true rfl⟩) rfl rfl hl.1 rfl (lv_room (Nat.le_of_ble_eq_true rfl)) dX5_done_21 ⟨Nat.le_of_ble_eq_true rfl, Nat.le_of_ble_eq_true rfl⟩) hS (fun H locs hP hD hS => ?_)
    have hP : va_P D vwCl (zWM cI cJ cZ h 1 (n, L) ((zcb kt pt), (zcb km pm), (zcb kl pl)) mc (run, wc, nu, lc, le, af, tr, ms, cl, tm) (co, yn, yh, pa) ++ R) _ := hP
    have hD : va_D (zAb B) (zWM cI cJ cZ h 1 (n, L) ((zcb kt pt), (zcb km pm), (zcb kl pl)) mc (run, wc, nu, lc, le, af, tr, ms, cl, tm) (co, yn, yh, pa) ++ R) := hD
    exact W.iret (v := 0) hx hb hr (fun t ht hW => ⟨⟨_, (), rfl, rfl, by rw [ht]; exact hP, hD⟩, hS.F ht⟩) hS.2.2 dX5_done_24
  · skip
    have c_1 : run = true := zb_n c_1
    exact absurd (c_1.symm.trans hrun) (by decide)

set_option maxHeartbeats 1000000 in
set_option maxRecDepth 100000 in
theorem c_X5_isOpen {l : Launch} {B kr kp : Nat} {D : va_G} {cI cJ cZ : ClassId} {h : Nat → Nat} {R : va_W} {th : Int32} {n : Nat} {L : Nat → Int64} {kt : Nat → Int32} {km : Nat → Int32} {kl : Nat → Int32} {pt : Nat → Int32} {pm : Nat → Int32} {pl : Nat → Int32} {nu : Nat → Int32} {le : Nat → Int32} {af : Nat → Int32} {run : Bool} {wc : Nat} {lc : Nat} {tr : Nat} {cl : Nat} {tm : Nat} {ms : Nat} {co : Nat} {yn : Nat} {yh : Nat → Int32} {pa : Int32} {mc : Nat → Int32}     : Met l yX5_isOpen wsX5_isOpen ({ frames := 0, cells := 0, slots := 0, locals := 0 }) (zPc B kr kp D (zTy cI cJ cZ) (zWM cI cJ cZ h th (n, L) ((zcb kt pt), (zcb km pm), (zcb kl pl)) mc (run, wc, nu, lc, le, af, tr, ms, cl, tm) (co, yn, yh, pa) ++ R) [.ref (h 0)]) (zQi B D (zWM cI cJ cZ h 0 (n, L) ((zcb kt pt), (zcb km pm), (zcb kl pl)) mc (run, wc, nu, lc, le, af, tr, ms, cl, tm) (co, yn, yh, pa) ++ R) (zb run)) 0 0 (zAb B) := by
  refine Met.ofW (cc := cX5_isOpen) (maxL := 1) (ret := (some .boolean)) (by decide) rfl ?_
  intro p e s m args below meth c s₁ B0 hml hv
  obtain ⟨rfl, hP, hD, hK, hE, hB⟩ := hv
  have hx := B0.exec
  have hb := B0.bytes
  have hr := B0.returns
  have hts := atoms_spec (ws := wsX5_isOpen) B0.pre
  have hown : s.vm.findClass RX5 = some m.cls := findClass_of_methodNamed B0.named
  have hlocks := B0.notSynchronized
  have hA : ∀ q : Nat, s.heap.size ≤ q → zAb B q := fun q hq => Nat.le_trans hB hq
  have hS : va_S (zAb B) s.heap s.heap [] := va_S.rf
  have hl := lv_entry ([.ref (h 0)]) (n := 1) (Nat.le_of_ble_eq_true rfl)
  rw [lg_entry_eq]
  generalize (lg_sl ([.ref (h 0)]) ++ List.replicate (1 - (lg_sl ([.ref (h 0)])).length) Slot.unset).toArray = ls at hl ⊢
  have hl : lv_has ls 1 [(0, .ref (h 0))] := hl
  have hinX5 : ∀ w ∈ wsX50, w ∈ wsX5_isOpen := fun _ h => List.mem_cons_of_mem _ (List.mem_append_right _ h)
  have hP : va_P D vwCl (zWM cI cJ cZ h th (n, L) ((zcb kt pt), (zcb km pm), (zcb kl pl)) mc (run, wc, nu, lc, le, af, tr, ms, cl, tm) (co, yn, yh, pa) ++ R) s.heap := hP
  have hD : va_D (zAb B) (zWM cI cJ cZ h th (n, L) ((zcb kt pt), (zcb km pm), (zcb kl pl)) mc (run, wc, nu, lc, le, af, tr, ms, cl, tm) (co, yn, yh, pa) ++ R) := hD
  refine lv_aload_n hx hb dX5_isOpen_0 rfl (lv_at hl 0 rfl) ?_
  refine lv_iconst (v := 0) hx hb dX5_isOpen_1 (by decide) ?_
  refine va_put (ci := 5) (v := .int 0) (ty := .int) (C := RX5) (T := TX5) (N := 20) hx hb hts hinX5 tyX5 tyX5_ok nmX5 hown hK hP hD hS 0 rfl rfl 0 (by decide) (hts (.fieldLink RX5 43 "TypingTutorModel" "thrown" "I") (List.mem_of_getElem? (i := 1) rfl)) (fun _ h9 => h9) rfl (by decide +kernel) rfl rfl (Nat.le_of_ble_eq_true rfl) dX5_isOpen_2 (fun H locs hP hD hS => ?_)
  have hP : va_P D vwCl (zWM cI cJ cZ h 0 (n, L) ((zcb kt pt), (zcb km pm), (zcb kl pl)) mc (run, wc, nu, lc, le, af, tr, ms, cl, tm) (co, yn, yh, pa) ++ R) _ := hP
  have hD : va_D (zAb B) (zWM cI cJ cZ h 0 (n, L) ((zcb kt pt), (zcb km pm), (zcb kl pl)) mc (run, wc, nu, lc, le, af, tr, ms, cl, tm) (co, yn, yh, pa) ++ R) := hD
  refine lv_aload_n hx hb dX5_isOpen_5 rfl (lv_at hl 0 rfl) ?_
  refine va_get (ci := 5) (v := .int (zb run)) (C := RX5) (T := TX5) (N := 20) hx hb hts hinX5 hown hK hP 0 rfl rfl 7 (by decide) (hts (.fieldLink RX5 106 "TypingTutorModel" "isOpen" "Z") (List.mem_of_getElem? (i := 2) rfl)) (fun _ h9 => h9) rfl dX5_isOpen_6 ?_
  exact W.zret (v := (zb run)) hx hb hr zb_nar (fun t ht hW => ⟨⟨_, (), rfl, rfl, by rw [ht]; exact hP, hD⟩, hS.F ht⟩) hS.2.2 dX5_isOpen_9

set_option maxHeartbeats 1000000 in
set_option maxRecDepth 100000 in
theorem c_X5_wanted {l : Launch} {B kr kp : Nat} {D : va_G} {cI cJ cZ : ClassId} {h : Nat → Nat} {R : va_W} {th : Int32} {n : Nat} {L : Nat → Int64} {kt : Nat → Int32} {km : Nat → Int32} {kl : Nat → Int32} {pt : Nat → Int32} {pm : Nat → Int32} {pl : Nat → Int32} {nu : Nat → Int32} {le : Nat → Int32} {af : Nat → Int32} {run : Bool} {wc : Nat} {lc : Nat} {tr : Nat} {cl : Nat} {tm : Nat} {ms : Nat} {co : Nat} {yn : Nat} {yh : Nat → Int32} {pa : Int32} {mc : Nat → Int32}    (hrun : run = true) (htr : tr < 48) : Met l yX5_wanted wsX5_wanted ({ frames := 0, cells := 0, slots := 0, locals := 0 }) (zPc B kr kp D (zTy cI cJ cZ) (zWM cI cJ cZ h th (n, L) ((zcb kt pt), (zcb km pm), (zcb kl pl)) mc (run, wc, nu, lc, le, af, tr, ms, cl, tm) (co, yn, yh, pa) ++ R) [.ref (h 0)]) (zQi B D (zWM cI cJ cZ h 0 (n, L) ((zcb kt pt), (zcb km pm), (zcb kl pl)) mc (run, wc, nu, lc, le, af, tr, ms, cl, tm) (co, yn, yh, pa) ++ R) (le tr)) 0 0 (zAb B) := by
  refine Met.ofW (cc := cX5_wanted) (maxL := 1) (ret := (some .int)) (by decide) rfl ?_
  intro p e s m args below meth c s₁ B0 hml hv
  obtain ⟨rfl, hP, hD, hK, hE, hB⟩ := hv
  have hx := B0.exec
  have hb := B0.bytes
  have hr := B0.returns
  have hts := atoms_spec (ws := wsX5_wanted) B0.pre
  have hown : s.vm.findClass RX5 = some m.cls := findClass_of_methodNamed B0.named
  have hlocks := B0.notSynchronized
  have hA : ∀ q : Nat, s.heap.size ≤ q → zAb B q := fun q hq => Nat.le_trans hB hq
  have hS : va_S (zAb B) s.heap s.heap [] := va_S.rf
  have hl := lv_entry ([.ref (h 0)]) (n := 1) (Nat.le_of_ble_eq_true rfl)
  rw [lg_entry_eq]
  generalize (lg_sl ([.ref (h 0)]) ++ List.replicate (1 - (lg_sl ([.ref (h 0)])).length) Slot.unset).toArray = ls at hl ⊢
  have hl : lv_has ls 1 [(0, .ref (h 0))] := hl
  have hinX5 : ∀ w ∈ wsX50, w ∈ wsX5_wanted := fun _ h => List.mem_cons_of_mem _ (List.mem_append_right _ h)
  have hP : va_P D vwCl (zWM cI cJ cZ h th (n, L) ((zcb kt pt), (zcb km pm), (zcb kl pl)) mc (run, wc, nu, lc, le, af, tr, ms, cl, tm) (co, yn, yh, pa) ++ R) s.heap := hP
  have hD : va_D (zAb B) (zWM cI cJ cZ h th (n, L) ((zcb kt pt), (zcb km pm), (zcb kl pl)) mc (run, wc, nu, lc, le, af, tr, ms, cl, tm) (co, yn, yh, pa) ++ R) := hD
  refine lv_aload_n hx hb dX5_wanted_0 rfl (lv_at hl 0 rfl) ?_
  refine lv_iconst (v := 0) hx hb dX5_wanted_1 (by decide) ?_
  refine va_put (ci := 5) (v := .int 0) (ty := .int) (C := RX5) (T := TX5) (N := 20) hx hb hts hinX5 tyX5 tyX5_ok nmX5 hown hK hP hD hS 0 rfl rfl 0 (by decide) (hts (.fieldLink RX5 43 "TypingTutorModel" "thrown" "I") (List.mem_of_getElem? (i := 1) rfl)) (fun _ h9 => h9) rfl (by decide +kernel) rfl rfl (Nat.le_of_ble_eq_true rfl) dX5_wanted_2 (fun H locs hP hD hS => ?_)
  have hP : va_P D vwCl (zWM cI cJ cZ h 0 (n, L) ((zcb kt pt), (zcb km pm), (zcb kl pl)) mc (run, wc, nu, lc, le, af, tr, ms, cl, tm) (co, yn, yh, pa) ++ R) _ := hP
  have hD : va_D (zAb B) (zWM cI cJ cZ h 0 (n, L) ((zcb kt pt), (zcb km pm), (zcb kl pl)) mc (run, wc, nu, lc, le, af, tr, ms, cl, tm) (co, yn, yh, pa) ++ R) := hD
  refine lv_aload_n hx hb dX5_wanted_5 rfl (lv_at hl 0 rfl) ?_
  refine va_get (ci := 5) (v := .int (zb run)) (C := RX5) (T := TX5) (N := 20) hx hb hts hinX5 hown hK hP 0 rfl rfl 7 (by decide) (hts (.fieldLink RX5 106 "TypingTutorModel" "isOpen" "Z") (List.mem_of_getElem? (i := 2) rfl)) (fun _ h9 => h9) rfl dX5_wanted_6 ?_
  refine lv_if_eq (tgt := 24) hx hb dX5_wanted_9 (by decide) (fun c_1 => ?_) (fun c_1 => ?_)
  · skip
    have c_1 : run = false := zb_0 c_1
    exact absurd (c_1.symm.trans hrun) (by decide)
  · skip
    have c_1 : run = true := zb_n c_1
    refine lv_aload_n hx hb dX5_wanted_12 rfl (lv_at hl 0 rfl) ?_
    refine va_get (ci := 5) (v := .ref (h 7)) (C := RX5) (T := TX5) (N := 20) hx hb hts hinX5 hown hK hP 0 rfl rfl 11 (by decide) (hts (.fieldLink RX5 29 "TypingTutorModel" "text" "[I") (List.mem_of_getElem? (i := 3) rfl)) (fun _ h9 => h9) rfl dX5_wanted_13 ?_
    refine lv_aload_n hx hb dX5_wanted_16 rfl (lv_at hl 0 rfl) ?_
    refine va_get (ci := 5) (v := .int (nI tr)) (C := RX5) (T := TX5) (N := 20) hx hb hts hinX5 hown hK hP 0 rfl rfl 13 (by decide) (hts (.fieldLink RX5 110 "TypingTutorModel" "at" "I") (List.mem_of_getElem? (i := 4) rfl)) (fun _ h9 => h9) rfl dX5_wanted_17 ?_
    refine va_iald hx hb hK hP 7 0 rfl rfl (vp_in_nI (n := tr) (N := 48) (by omega) (by omega)) dX5_wanted_20 ?_
    rw [pk_cl (x := (nI tr)) tr (rfl) (by omega)]
    refine lv_goto (tgt := 29) hx hb dX5_wanted_21 (by decide) ?_
    exact W.iret (v := (le tr)) hx hb hr (fun t ht hW => ⟨⟨_, (), rfl, rfl, by rw [ht]; exact hP, hD⟩, hS.F ht⟩) hS.2.2 dX5_wanted_29

set_option maxHeartbeats 1000000 in
set_option maxRecDepth 100000 in
theorem c_X5_done {l : Launch} {B kr kp : Nat} {D : va_G} {cI cJ cZ : ClassId} {h : Nat → Nat} {R : va_W} {th : Int32} {n : Nat} {L : Nat → Int64} {kt : Nat → Int32} {km : Nat → Int32} {kl : Nat → Int32} {pt : Nat → Int32} {pm : Nat → Int32} {pl : Nat → Int32} {nu : Nat → Int32} {le : Nat → Int32} {af : Nat → Int32} {run : Bool} {wc : Nat} {lc : Nat} {tr : Nat} {cl : Nat} {tm : Nat} {ms : Nat} {co : Nat} {yn : Nat} {yh : Nat → Int32} {pa : Int32} {mc : Nat → Int32}    (hrun : run = true) : Met l yX5_done wsX5_done ({ frames := 0, cells := 0, slots := 0, locals := 0 }) (zPc B kr kp D (zTy cI cJ cZ) (zWM cI cJ cZ h th (n, L) ((zcb kt pt), (zcb km pm), (zcb kl pl)) mc (run, wc, nu, lc, le, af, tr, ms, cl, tm) (co, yn, yh, pa) ++ R) [.ref (h 0)]) (zQi B D (zWM cI cJ cZ h 0 (n, L) ((zcb kt pt), (zcb km pm), (zcb kl pl)) mc (run, wc, nu, lc, le, af, tr, ms, cl, tm) (co, yn, yh, pa) ++ R) (nI tr)) 0 0 (zAb B) := by
  refine Met.ofW (cc := cX5_done) (maxL := 1) (ret := (some .int)) (by decide) rfl ?_
  intro p e s m args below meth c s₁ B0 hml hv
  obtain ⟨rfl, hP, hD, hK, hE, hB⟩ := hv
  have hx := B0.exec
  have hb := B0.bytes
  have hr := B0.returns
  have hts := atoms_spec (ws := wsX5_done) B0.pre
  have hown : s.vm.findClass RX5 = some m.cls := findClass_of_methodNamed B0.named
  have hlocks := B0.notSynchronized
  have hA : ∀ q : Nat, s.heap.size ≤ q → zAb B q := fun q hq => Nat.le_trans hB hq
  have hS : va_S (zAb B) s.heap s.heap [] := va_S.rf
  have hl := lv_entry ([.ref (h 0)]) (n := 1) (Nat.le_of_ble_eq_true rfl)
  rw [lg_entry_eq]
  generalize (lg_sl ([.ref (h 0)]) ++ List.replicate (1 - (lg_sl ([.ref (h 0)])).length) Slot.unset).toArray = ls at hl ⊢
  have hl : lv_has ls 1 [(0, .ref (h 0))] := hl
  have hinX5 : ∀ w ∈ wsX50, w ∈ wsX5_done := fun _ h => List.mem_cons_of_mem _ (List.mem_append_right _ h)
  have hP : va_P D vwCl (zWM cI cJ cZ h th (n, L) ((zcb kt pt), (zcb km pm), (zcb kl pl)) mc (run, wc, nu, lc, le, af, tr, ms, cl, tm) (co, yn, yh, pa) ++ R) s.heap := hP
  have hD : va_D (zAb B) (zWM cI cJ cZ h th (n, L) ((zcb kt pt), (zcb km pm), (zcb kl pl)) mc (run, wc, nu, lc, le, af, tr, ms, cl, tm) (co, yn, yh, pa) ++ R) := hD
  refine lv_aload_n hx hb dX5_done_0 rfl (lv_at hl 0 rfl) ?_
  refine lv_iconst (v := 0) hx hb dX5_done_1 (by decide) ?_
  refine va_put (ci := 5) (v := .int 0) (ty := .int) (C := RX5) (T := TX5) (N := 20) hx hb hts hinX5 tyX5 tyX5_ok nmX5 hown hK hP hD hS 0 rfl rfl 0 (by decide) (hts (.fieldLink RX5 43 "TypingTutorModel" "thrown" "I") (List.mem_of_getElem? (i := 1) rfl)) (fun _ h9 => h9) rfl (by decide +kernel) rfl rfl (Nat.le_of_ble_eq_true rfl) dX5_done_2 (fun H locs hP hD hS => ?_)
  have hP : va_P D vwCl (zWM cI cJ cZ h 0 (n, L) ((zcb kt pt), (zcb km pm), (zcb kl pl)) mc (run, wc, nu, lc, le, af, tr, ms, cl, tm) (co, yn, yh, pa) ++ R) _ := hP
  have hD : va_D (zAb B) (zWM cI cJ cZ h 0 (n, L) ((zcb kt pt), (zcb km pm), (zcb kl pl)) mc (run, wc, nu, lc, le, af, tr, ms, cl, tm) (co, yn, yh, pa) ++ R) := hD
  refine lv_aload_n hx hb dX5_done_5 rfl (lv_at hl 0 rfl) ?_
  refine va_get (ci := 5) (v := .int (zb run)) (C := RX5) (T := TX5) (N := 20) hx hb hts hinX5 hown hK hP 0 rfl rfl 7 (by decide) (hts (.fieldLink RX5 106 "TypingTutorModel" "isOpen" "Z") (List.mem_of_getElem? (i := 2) rfl)) (fun _ h9 => h9) rfl dX5_done_6 ?_
  refine lv_if_eq (tgt := 19) hx hb dX5_done_9 (by decide) (fun c_1 => ?_) (fun c_1 => ?_)
  · skip
    have c_1 : run = false := zb_0 c_1
    exact absurd (c_1.symm.trans hrun) (by decide)
  · skip
    have c_1 : run = true := zb_n c_1
    refine lv_aload_n hx hb dX5_done_12 rfl (lv_at hl 0 rfl) ?_
    refine va_get (ci := 5) (v := .int (nI tr)) (C := RX5) (T := TX5) (N := 20) hx hb hts hinX5 hown hK hP 0 rfl rfl 13 (by decide) (hts (.fieldLink RX5 110 "TypingTutorModel" "at" "I") (List.mem_of_getElem? (i := 3) rfl)) (fun _ h9 => h9) rfl dX5_done_13 ?_
    refine lv_goto (tgt := 24) hx hb dX5_done_16 (by decide) ?_
    exact W.iret (v := (nI tr)) hx hb hr (fun t ht hW => ⟨⟨_, (), rfl, rfl, by rw [ht]; exact hP, hD⟩, hS.F ht⟩) hS.2.2 dX5_done_24

set_option maxHeartbeats 1000000 in
set_option maxRecDepth 100000 in
theorem c_X5_lessonWord {l : Launch} {B kr kp : Nat} {D : va_G} {cI cJ cZ : ClassId} {h : Nat → Nat} {R : va_W} {th : Int32} {n : Nat} {L : Nat → Int64} {kt : Nat → Int32} {km : Nat → Int32} {kl : Nat → Int32} {pt : Nat → Int32} {pm : Nat → Int32} {pl : Nat → Int32} {nu : Nat → Int32} {le : Nat → Int32} {af : Nat → Int32} {run : Bool} {wc : Nat} {lc : Nat} {tr : Nat} {cl : Nat} {tm : Nat} {ms : Nat} {co : Nat} {yn : Nat} {yh : Nat → Int32} {pa : Int32} {mc : Nat → Int32} {k : Nat}   (hrun : run = true) (hk : k < wc) (hwc : wc ≤ 6) : Met l yX5_lessonWord wsX5_lessonWord ({ frames := 0, cells := 0, slots := 0, locals := 0 }) (zPc B kr kp D (zTy cI cJ cZ) (zWM cI cJ cZ h th (n, L) ((zcb kt pt), (zcb km pm), (zcb kl pl)) mc (run, wc, nu, lc, le, af, tr, ms, cl, tm) (co, yn, yh, pa) ++ R) [.ref (h 0), .int (nI k)]) (zQi B D (zWM cI cJ cZ h 0 (n, L) ((zcb kt pt), (zcb km pm), (zcb kl pl)) mc (run, wc, nu, lc, le, af, tr, ms, cl, tm) (co, yn, yh, pa) ++ R) (nu k)) 0 0 (zAb B) := by
  refine Met.ofW (cc := cX5_lessonWord) (maxL := 2) (ret := (some .int)) (by decide) rfl ?_
  intro p e s m args below meth c s₁ B0 hml hv
  obtain ⟨rfl, hP, hD, hK, hE, hB⟩ := hv
  have hx := B0.exec
  have hb := B0.bytes
  have hr := B0.returns
  have hts := atoms_spec (ws := wsX5_lessonWord) B0.pre
  have hown : s.vm.findClass RX5 = some m.cls := findClass_of_methodNamed B0.named
  have hlocks := B0.notSynchronized
  have hA : ∀ q : Nat, s.heap.size ≤ q → zAb B q := fun q hq => Nat.le_trans hB hq
  have hS : va_S (zAb B) s.heap s.heap [] := va_S.rf
  have hl := lv_entry ([.ref (h 0), .int (nI k)]) (n := 2) (Nat.le_of_ble_eq_true rfl)
  rw [lg_entry_eq]
  generalize (lg_sl ([.ref (h 0), .int (nI k)]) ++ List.replicate (2 - (lg_sl ([.ref (h 0), .int (nI k)])).length) Slot.unset).toArray = ls at hl ⊢
  have hl : lv_has ls 2 [(0, .ref (h 0)), (1, .int (nI k))] := hl
  have hinX5 : ∀ w ∈ wsX50, w ∈ wsX5_lessonWord := fun _ h => List.mem_cons_of_mem _ (List.mem_append_right _ h)
  have hP : va_P D vwCl (zWM cI cJ cZ h th (n, L) ((zcb kt pt), (zcb km pm), (zcb kl pl)) mc (run, wc, nu, lc, le, af, tr, ms, cl, tm) (co, yn, yh, pa) ++ R) s.heap := hP
  have hD : va_D (zAb B) (zWM cI cJ cZ h th (n, L) ((zcb kt pt), (zcb km pm), (zcb kl pl)) mc (run, wc, nu, lc, le, af, tr, ms, cl, tm) (co, yn, yh, pa) ++ R) := hD
  refine lv_aload_n hx hb dX5_lessonWord_0 rfl (lv_at hl 0 rfl) ?_
  refine lv_iconst (v := 0) hx hb dX5_lessonWord_1 (by decide) ?_
  refine va_put (ci := 5) (v := .int 0) (ty := .int) (C := RX5) (T := TX5) (N := 20) hx hb hts hinX5 tyX5 tyX5_ok nmX5 hown hK hP hD hS 0 rfl rfl 0 (by decide) (hts (.fieldLink RX5 43 "TypingTutorModel" "thrown" "I") (List.mem_of_getElem? (i := 1) rfl)) (fun _ h9 => h9) rfl (by decide +kernel) rfl rfl (Nat.le_of_ble_eq_true rfl) dX5_lessonWord_2 (fun H locs hP hD hS => ?_)
  have hP : va_P D vwCl (zWM cI cJ cZ h 0 (n, L) ((zcb kt pt), (zcb km pm), (zcb kl pl)) mc (run, wc, nu, lc, le, af, tr, ms, cl, tm) (co, yn, yh, pa) ++ R) _ := hP
  have hD : va_D (zAb B) (zWM cI cJ cZ h 0 (n, L) ((zcb kt pt), (zcb km pm), (zcb kl pl)) mc (run, wc, nu, lc, le, af, tr, ms, cl, tm) (co, yn, yh, pa) ++ R) := hD
  refine lv_aload_n hx hb dX5_lessonWord_5 rfl (lv_at hl 0 rfl) ?_
  refine va_get (ci := 5) (v := .int (zb run)) (C := RX5) (T := TX5) (N := 20) hx hb hts hinX5 hown hK hP 0 rfl rfl 7 (by decide) (hts (.fieldLink RX5 106 "TypingTutorModel" "isOpen" "Z") (List.mem_of_getElem? (i := 2) rfl)) (fun _ h9 => h9) rfl dX5_lessonWord_6 ?_
  refine lv_if_ne (tgt := 18) hx hb dX5_lessonWord_9 (by decide) (fun c_1 => ?_) (fun c_1 => ?_)
  · skip
    have c_1 : run = true := zb_n c_1
    refine lv_iload_n hx hb dX5_lessonWord_18 rfl (lv_at hl 1 rfl) ?_
    refine lv_if_lt (tgt := 39) hx hb dX5_lessonWord_19 (by decide) (fun c_2 => ?_) (fun c_2 => ?_)
    · skip
      have c_2 : k < 0 := (nI_ltI (a := k) (b := 0) (by omega) (by omega)).mp c_2
      exfalso; first | omega | (revert c_2; decide) | (exact absurd rfl c_2) | simp_all
    · skip
      have c_2 : ¬ k < 0 := fun hh => c_2 ((nI_ltI (a := k) (b := 0) (by omega) (by omega)).mpr hh)
      refine lv_iload_n hx hb dX5_lessonWord_22 rfl (lv_at hl 1 rfl) ?_
      refine lv_aload_n hx hb dX5_lessonWord_23 rfl (lv_at hl 0 rfl) ?_
      refine va_get (ci := 5) (v := .int (nI wc)) (C := RX5) (T := TX5) (N := 20) hx hb hts hinX5 hown hK hP 0 rfl rfl 8 (by decide) (hts (.fieldLink RX5 100 "TypingTutorModel" "lessonWords" "I") (List.mem_of_getElem? (i := 3) rfl)) (fun _ h9 => h9) rfl dX5_lessonWord_24 ?_
      refine lv_icmp_ge (tgt := 39) hx hb dX5_lessonWord_27 (by decide) (fun c_3 => ?_) (fun c_3 => ?_)
      · skip
        have c_3 : wc ≤ k := (nI_leI (a := wc) (b := k) (by omega) (by omega)).mp c_3
        exfalso; first | omega | (revert c_3; decide) | (exact absurd rfl c_3) | simp_all
      · skip
        have c_3 : ¬ wc ≤ k := fun hh => c_3 ((nI_leI (a := wc) (b := k) (by omega) (by omega)).mpr hh)
        refine lv_aload_n hx hb dX5_lessonWord_30 rfl (lv_at hl 0 rfl) ?_
        refine va_get (ci := 5) (v := .ref (h 6)) (C := RX5) (T := TX5) (N := 20) hx hb hts hinX5 hown hK hP 0 rfl rfl 9 (by decide) (hts (.fieldLink RX5 26 "TypingTutorModel" "chosen" "[I") (List.mem_of_getElem? (i := 4) rfl)) (fun _ h9 => h9) rfl dX5_lessonWord_31 ?_
        refine lv_iload_n hx hb dX5_lessonWord_34 rfl (lv_at hl 1 rfl) ?_
        refine va_iald hx hb hK hP 6 0 rfl rfl (vp_in_nI (n := k) (N := 6) (by omega) (by omega)) dX5_lessonWord_35 ?_
        rw [pk_cl (x := (nI k)) k (rfl) (by omega)]
        refine lv_goto (tgt := 44) hx hb dX5_lessonWord_36 (by decide) ?_
        exact W.iret (v := (nu k)) hx hb hr (fun t ht hW => ⟨⟨_, (), rfl, rfl, by rw [ht]; exact hP, hD⟩, hS.F ht⟩) hS.2.2 dX5_lessonWord_44
  · skip
    have c_1 : run = false := zb_0 c_1
    exact absurd (c_1.symm.trans hrun) (by decide)

set_option maxHeartbeats 1000000 in
set_option maxRecDepth 100000 in
theorem c_X5_lessonWord_x1 {l : Launch} {B kr kp : Nat} {D : va_G} {cI cJ cZ : ClassId} {h : Nat → Nat} {R : va_W} {th : Int32} {n : Nat} {L : Nat → Int64} {kt : Nat → Int32} {km : Nat → Int32} {kl : Nat → Int32} {pt : Nat → Int32} {pm : Nat → Int32} {pl : Nat → Int32} {nu : Nat → Int32} {le : Nat → Int32} {af : Nat → Int32} {run : Bool} {wc : Nat} {lc : Nat} {tr : Nat} {cl : Nat} {tm : Nat} {ms : Nat} {co : Nat} {yn : Nat} {yh : Nat → Int32} {pa : Int32} {mc : Nat → Int32} {i : Int32}   (hrun : run = false) : Met l yX5_lessonWord wsX5_lessonWord ({ frames := 1, cells := 0, slots := 0, locals := 21 }) (zPc B kr kp D (zTy cI cJ cZ) (zWM cI cJ cZ h th (n, L) ((zcb kt pt), (zcb km pm), (zcb kl pl)) mc (run, wc, nu, lc, le, af, tr, ms, cl, tm) (co, yn, yh, pa) ++ R) [.ref (h 0), .int i]) (zQi B D (zWM cI cJ cZ h 1 (n, L) ((zcb kt pt), (zcb km pm), (zcb kl pl)) mc (run, wc, nu, lc, le, af, tr, ms, cl, tm) (co, yn, yh, pa) ++ R) 0) 0 0 (zAb B) := by
  refine Met.ofW (cc := cX5_lessonWord) (maxL := 2) (ret := (some .int)) (by decide) rfl ?_
  intro p e s m args below meth c s₁ B0 hml hv
  obtain ⟨rfl, hP, hD, hK, hE, hB⟩ := hv
  have hx := B0.exec
  have hb := B0.bytes
  have hr := B0.returns
  have hts := atoms_spec (ws := wsX5_lessonWord) B0.pre
  have hown : s.vm.findClass RX5 = some m.cls := findClass_of_methodNamed B0.named
  have hlocks := B0.notSynchronized
  have hA : ∀ q : Nat, s.heap.size ≤ q → zAb B q := fun q hq => Nat.le_trans hB hq
  have hS : va_S (zAb B) s.heap s.heap [] := va_S.rf
  have hl := lv_entry ([.ref (h 0), .int i]) (n := 2) (Nat.le_of_ble_eq_true rfl)
  rw [lg_entry_eq]
  generalize (lg_sl ([.ref (h 0), .int i]) ++ List.replicate (2 - (lg_sl ([.ref (h 0), .int i])).length) Slot.unset).toArray = ls at hl ⊢
  have hl : lv_has ls 2 [(0, .ref (h 0)), (1, .int i)] := hl
  have hinX5 : ∀ w ∈ wsX50, w ∈ wsX5_lessonWord := fun _ h => List.mem_cons_of_mem _ (List.mem_append_right _ h)
  have hP : va_P D vwCl (zWM cI cJ cZ h th (n, L) ((zcb kt pt), (zcb km pm), (zcb kl pl)) mc (run, wc, nu, lc, le, af, tr, ms, cl, tm) (co, yn, yh, pa) ++ R) s.heap := hP
  have hD : va_D (zAb B) (zWM cI cJ cZ h th (n, L) ((zcb kt pt), (zcb km pm), (zcb kl pl)) mc (run, wc, nu, lc, le, af, tr, ms, cl, tm) (co, yn, yh, pa) ++ R) := hD
  refine lv_aload_n hx hb dX5_lessonWord_0 rfl (lv_at hl 0 rfl) ?_
  refine lv_iconst (v := 0) hx hb dX5_lessonWord_1 (by decide) ?_
  refine va_put (ci := 5) (v := .int 0) (ty := .int) (C := RX5) (T := TX5) (N := 20) hx hb hts hinX5 tyX5 tyX5_ok nmX5 hown hK hP hD hS 0 rfl rfl 0 (by decide) (hts (.fieldLink RX5 43 "TypingTutorModel" "thrown" "I") (List.mem_of_getElem? (i := 1) rfl)) (fun _ h9 => h9) rfl (by decide +kernel) rfl rfl (Nat.le_of_ble_eq_true rfl) dX5_lessonWord_2 (fun H locs hP hD hS => ?_)
  have hP : va_P D vwCl (zWM cI cJ cZ h 0 (n, L) ((zcb kt pt), (zcb km pm), (zcb kl pl)) mc (run, wc, nu, lc, le, af, tr, ms, cl, tm) (co, yn, yh, pa) ++ R) _ := hP
  have hD : va_D (zAb B) (zWM cI cJ cZ h 0 (n, L) ((zcb kt pt), (zcb km pm), (zcb kl pl)) mc (run, wc, nu, lc, le, af, tr, ms, cl, tm) (co, yn, yh, pa) ++ R) := hD
  refine lv_aload_n hx hb dX5_lessonWord_5 rfl (lv_at hl 0 rfl) ?_
  refine va_get (ci := 5) (v := .int (zb run)) (C := RX5) (T := TX5) (N := 20) hx hb hts hinX5 hown hK hP 0 rfl rfl 7 (by decide) (hts (.fieldLink RX5 106 "TypingTutorModel" "isOpen" "Z") (List.mem_of_getElem? (i := 2) rfl)) (fun _ h9 => h9) rfl dX5_lessonWord_6 ?_
  refine lv_if_ne (tgt := 18) hx hb dX5_lessonWord_9 (by decide) (fun c_1 => ?_) (fun c_1 => ?_)
  · skip
    have c_1 : run = true := zb_n c_1
    exact absurd (c_1.symm.trans hrun) (by decide)
  · skip
    have c_1 : run = false := zb_0 c_1
    refine lv_aload_n hx hb dX5_lessonWord_12 rfl (lv_at hl 0 rfl) ?_
    refine lv_iconst (v := 1) hx hb dX5_lessonWord_13 (by decide) ?_
    refine zci (zrV (As := [.int 1]) (rest := []) ⟨hx, hb, hml, hown, hts⟩ (zV 0 hP hD hK hE hB hS rfl rfl) (c_X5_fail  ) (cwV 1 hts gX5_lessonWord_X5_fail rfl rfl rfl hdv_X5_fail ⟨Nat.le_of_ble_eq_true rfl, Nat.le_of_ble_eq_true rfl⟩) rfl rfl hl.1 rfl (lv_room (Nat.le_of_ble_eq_true rfl)) dX5_lessonWord_14 ⟨Nat.le_of_ble_eq_true rfl, Nat.le_of_ble_eq_true rfl⟩) hS (fun H locs hP hD hS => ?_)
    have hP : va_P D vwCl (zWM cI cJ cZ h 1 (n, L) ((zcb kt pt), (zcb km pm), (zcb kl pl)) mc (run, wc, nu, lc, le, af, tr, ms, cl, tm) (co, yn, yh, pa) ++ R) _ := hP
    have hD : va_D (zAb B) (zWM cI cJ cZ h 1 (n, L) ((zcb kt pt), (zcb km pm), (zcb kl pl)) mc (run, wc, nu, lc, le, af, tr, ms, cl, tm) (co, yn, yh, pa) ++ R) := hD
    exact W.iret (v := 0) hx hb hr (fun t ht hW => ⟨⟨_, (), rfl, rfl, by rw [ht]; exact hP, hD⟩, hS.F ht⟩) hS.2.2 dX5_lessonWord_17

set_option maxHeartbeats 1000000 in
set_option maxRecDepth 100000 in
theorem c_X5_lessonWord_x2 {l : Launch} {B kr kp : Nat} {D : va_G} {cI cJ cZ : ClassId} {h : Nat → Nat} {R : va_W} {th : Int32} {n : Nat} {L : Nat → Int64} {kt : Nat → Int32} {km : Nat → Int32} {kl : Nat → Int32} {pt : Nat → Int32} {pm : Nat → Int32} {pl : Nat → Int32} {nu : Nat → Int32} {le : Nat → Int32} {af : Nat → Int32} {run : Bool} {wc : Nat} {lc : Nat} {tr : Nat} {cl : Nat} {tm : Nat} {ms : Nat} {co : Nat} {yn : Nat} {yh : Nat → Int32} {pa : Int32} {mc : Nat → Int32} {i : Int32}   (hrun : run = true) (hi : i < 0 ∨ ¬ i < nI wc) : Met l yX5_lessonWord wsX5_lessonWord ({ frames := 1, cells := 0, slots := 0, locals := 21 }) (zPc B kr kp D (zTy cI cJ cZ) (zWM cI cJ cZ h th (n, L) ((zcb kt pt), (zcb km pm), (zcb kl pl)) mc (run, wc, nu, lc, le, af, tr, ms, cl, tm) (co, yn, yh, pa) ++ R) [.ref (h 0), .int i]) (zQi B D (zWM cI cJ cZ h 2 (n, L) ((zcb kt pt), (zcb km pm), (zcb kl pl)) mc (run, wc, nu, lc, le, af, tr, ms, cl, tm) (co, yn, yh, pa) ++ R) 0) 0 0 (zAb B) := by
  refine Met.ofW (cc := cX5_lessonWord) (maxL := 2) (ret := (some .int)) (by decide) rfl ?_
  intro p e s m args below meth c s₁ B0 hml hv
  obtain ⟨rfl, hP, hD, hK, hE, hB⟩ := hv
  have hx := B0.exec
  have hb := B0.bytes
  have hr := B0.returns
  have hts := atoms_spec (ws := wsX5_lessonWord) B0.pre
  have hown : s.vm.findClass RX5 = some m.cls := findClass_of_methodNamed B0.named
  have hlocks := B0.notSynchronized
  have hA : ∀ q : Nat, s.heap.size ≤ q → zAb B q := fun q hq => Nat.le_trans hB hq
  have hS : va_S (zAb B) s.heap s.heap [] := va_S.rf
  have hl := lv_entry ([.ref (h 0), .int i]) (n := 2) (Nat.le_of_ble_eq_true rfl)
  rw [lg_entry_eq]
  generalize (lg_sl ([.ref (h 0), .int i]) ++ List.replicate (2 - (lg_sl ([.ref (h 0), .int i])).length) Slot.unset).toArray = ls at hl ⊢
  have hl : lv_has ls 2 [(0, .ref (h 0)), (1, .int i)] := hl
  have hinX5 : ∀ w ∈ wsX50, w ∈ wsX5_lessonWord := fun _ h => List.mem_cons_of_mem _ (List.mem_append_right _ h)
  have hP : va_P D vwCl (zWM cI cJ cZ h th (n, L) ((zcb kt pt), (zcb km pm), (zcb kl pl)) mc (run, wc, nu, lc, le, af, tr, ms, cl, tm) (co, yn, yh, pa) ++ R) s.heap := hP
  have hD : va_D (zAb B) (zWM cI cJ cZ h th (n, L) ((zcb kt pt), (zcb km pm), (zcb kl pl)) mc (run, wc, nu, lc, le, af, tr, ms, cl, tm) (co, yn, yh, pa) ++ R) := hD
  refine lv_aload_n hx hb dX5_lessonWord_0 rfl (lv_at hl 0 rfl) ?_
  refine lv_iconst (v := 0) hx hb dX5_lessonWord_1 (by decide) ?_
  refine va_put (ci := 5) (v := .int 0) (ty := .int) (C := RX5) (T := TX5) (N := 20) hx hb hts hinX5 tyX5 tyX5_ok nmX5 hown hK hP hD hS 0 rfl rfl 0 (by decide) (hts (.fieldLink RX5 43 "TypingTutorModel" "thrown" "I") (List.mem_of_getElem? (i := 1) rfl)) (fun _ h9 => h9) rfl (by decide +kernel) rfl rfl (Nat.le_of_ble_eq_true rfl) dX5_lessonWord_2 (fun H locs hP hD hS => ?_)
  have hP : va_P D vwCl (zWM cI cJ cZ h 0 (n, L) ((zcb kt pt), (zcb km pm), (zcb kl pl)) mc (run, wc, nu, lc, le, af, tr, ms, cl, tm) (co, yn, yh, pa) ++ R) _ := hP
  have hD : va_D (zAb B) (zWM cI cJ cZ h 0 (n, L) ((zcb kt pt), (zcb km pm), (zcb kl pl)) mc (run, wc, nu, lc, le, af, tr, ms, cl, tm) (co, yn, yh, pa) ++ R) := hD
  refine lv_aload_n hx hb dX5_lessonWord_5 rfl (lv_at hl 0 rfl) ?_
  refine va_get (ci := 5) (v := .int (zb run)) (C := RX5) (T := TX5) (N := 20) hx hb hts hinX5 hown hK hP 0 rfl rfl 7 (by decide) (hts (.fieldLink RX5 106 "TypingTutorModel" "isOpen" "Z") (List.mem_of_getElem? (i := 2) rfl)) (fun _ h9 => h9) rfl dX5_lessonWord_6 ?_
  refine lv_if_ne (tgt := 18) hx hb dX5_lessonWord_9 (by decide) (fun c_1 => ?_) (fun c_1 => ?_)
  · skip
    have c_1 : run = true := zb_n c_1
    refine lv_iload_n hx hb dX5_lessonWord_18 rfl (lv_at hl 1 rfl) ?_
    refine lv_if_lt (tgt := 39) hx hb dX5_lessonWord_19 (by decide) (fun c_2 => ?_) (fun c_2 => ?_)
    · skip
      refine lv_aload_n hx hb dX5_lessonWord_39 rfl (lv_at hl 0 rfl) ?_
      refine lv_iconst (v := 2) hx hb dX5_lessonWord_40 (by decide) ?_
      refine zci (zrV (As := [.int 2]) (rest := []) ⟨hx, hb, hml, hown, hts⟩ (zV 0 hP hD hK hE hB hS rfl rfl) (c_X5_fail  ) (cwV 1 hts gX5_lessonWord_X5_fail rfl rfl rfl hdv_X5_fail ⟨Nat.le_of_ble_eq_true rfl, Nat.le_of_ble_eq_true rfl⟩) rfl rfl hl.1 rfl (lv_room (Nat.le_of_ble_eq_true rfl)) dX5_lessonWord_41 ⟨Nat.le_of_ble_eq_true rfl, Nat.le_of_ble_eq_true rfl⟩) hS (fun H locs hP hD hS => ?_)
      have hP : va_P D vwCl (zWM cI cJ cZ h 2 (n, L) ((zcb kt pt), (zcb km pm), (zcb kl pl)) mc (run, wc, nu, lc, le, af, tr, ms, cl, tm) (co, yn, yh, pa) ++ R) _ := hP
      have hD : va_D (zAb B) (zWM cI cJ cZ h 2 (n, L) ((zcb kt pt), (zcb km pm), (zcb kl pl)) mc (run, wc, nu, lc, le, af, tr, ms, cl, tm) (co, yn, yh, pa) ++ R) := hD
      exact W.iret (v := 0) hx hb hr (fun t ht hW => ⟨⟨_, (), rfl, rfl, by rw [ht]; exact hP, hD⟩, hS.F ht⟩) hS.2.2 dX5_lessonWord_44
    · skip
      refine lv_iload_n hx hb dX5_lessonWord_22 rfl (lv_at hl 1 rfl) ?_
      refine lv_aload_n hx hb dX5_lessonWord_23 rfl (lv_at hl 0 rfl) ?_
      refine va_get (ci := 5) (v := .int (nI wc)) (C := RX5) (T := TX5) (N := 20) hx hb hts hinX5 hown hK hP 0 rfl rfl 8 (by decide) (hts (.fieldLink RX5 100 "TypingTutorModel" "lessonWords" "I") (List.mem_of_getElem? (i := 3) rfl)) (fun _ h9 => h9) rfl dX5_lessonWord_24 ?_
      refine lv_icmp_ge (tgt := 39) hx hb dX5_lessonWord_27 (by decide) (fun c_3 => ?_) (fun c_3 => ?_)
      · skip
        refine lv_aload_n hx hb dX5_lessonWord_39 rfl (lv_at hl 0 rfl) ?_
        refine lv_iconst (v := 2) hx hb dX5_lessonWord_40 (by decide) ?_
        refine zci (zrV (As := [.int 2]) (rest := []) ⟨hx, hb, hml, hown, hts⟩ (zV 0 hP hD hK hE hB hS rfl rfl) (c_X5_fail  ) (cwV 1 hts gX5_lessonWord_X5_fail rfl rfl rfl hdv_X5_fail ⟨Nat.le_of_ble_eq_true rfl, Nat.le_of_ble_eq_true rfl⟩) rfl rfl hl.1 rfl (lv_room (Nat.le_of_ble_eq_true rfl)) dX5_lessonWord_41 ⟨Nat.le_of_ble_eq_true rfl, Nat.le_of_ble_eq_true rfl⟩) hS (fun H locs hP hD hS => ?_)
        have hP : va_P D vwCl (zWM cI cJ cZ h 2 (n, L) ((zcb kt pt), (zcb km pm), (zcb kl pl)) mc (run, wc, nu, lc, le, af, tr, ms, cl, tm) (co, yn, yh, pa) ++ R) _ := hP
        have hD : va_D (zAb B) (zWM cI cJ cZ h 2 (n, L) ((zcb kt pt), (zcb km pm), (zcb kl pl)) mc (run, wc, nu, lc, le, af, tr, ms, cl, tm) (co, yn, yh, pa) ++ R) := hD
        exact W.iret (v := 0) hx hb hr (fun t ht hW => ⟨⟨_, (), rfl, rfl, by rw [ht]; exact hP, hD⟩, hS.F ht⟩) hS.2.2 dX5_lessonWord_44
      · skip
        exact hi.elim (fun q => absurd q c_2) (fun q => absurd (Int32.not_le.mp c_3) q)
  · skip
    have c_1 : run = false := zb_0 c_1
    exact absurd (c_1.symm.trans hrun) (by decide)

set_option maxHeartbeats 1000000 in
set_option maxRecDepth 100000 in
theorem c_X5_key_0 {l : Launch} {B kr kp : Nat} {D : va_G} {cI cJ cZ : ClassId} {h : Nat → Nat} {R : va_W} {th : Int32} {n : Nat} {L : Nat → Int64} {kt : Nat → Int32} {km : Nat → Int32} {kl : Nat → Int32} {pt : Nat → Int32} {pm : Nat → Int32} {pl : Nat → Int32} {nu : Nat → Int32} {le : Nat → Int32} {af : Nat → Int32} {run : Bool} {wc : Nat} {lc : Nat} {tr : Nat} {cl : Nat} {tm : Nat} {ms : Nat} {co : Nat} {yn : Nat} {yh : Nat → Int32} {pa : Int32} {mc : Nat → Int32} {k : Nat}   (hk : k < 26) : Met l yX5_key wsX5_key ({ frames := 1, cells := 0, slots := 0, locals := 22 }) (zPc B kr kp D (zTy cI cJ cZ) (zWM cI cJ cZ h th (n, L) ((zcb kt pt), (zcb km pm), (zcb kl pl)) mc (run, wc, nu, lc, le, af, tr, ms, cl, tm) (co, yn, yh, pa) ++ R) [.ref (h 0), .int (nI k), .int 0]) (zQi B D (zWM cI cJ cZ h 0 (n, L) ((zcb kt pt), (zcb km pm), (zcb kl pl)) mc (run, wc, nu, lc, le, af, tr, ms, cl, tm) (co, yn, yh, pa) ++ R) (kt k)) 0 0 (zAb B) := by
  refine Met.ofW (cc := cX5_key) (maxL := 3) (ret := (some .int)) (by decide) rfl ?_
  intro p e s m args below meth c s₁ B0 hml hv
  obtain ⟨rfl, hP, hD, hK, hE, hB⟩ := hv
  have hx := B0.exec
  have hb := B0.bytes
  have hr := B0.returns
  have hts := atoms_spec (ws := wsX5_key) B0.pre
  have hown : s.vm.findClass RX5 = some m.cls := findClass_of_methodNamed B0.named
  have hlocks := B0.notSynchronized
  have hA : ∀ q : Nat, s.heap.size ≤ q → zAb B q := fun q hq => Nat.le_trans hB hq
  have hS : va_S (zAb B) s.heap s.heap [] := va_S.rf
  have hl := lv_entry ([.ref (h 0), .int (nI k), .int 0]) (n := 3) (Nat.le_of_ble_eq_true rfl)
  rw [lg_entry_eq]
  generalize (lg_sl ([.ref (h 0), .int (nI k), .int 0]) ++ List.replicate (3 - (lg_sl ([.ref (h 0), .int (nI k), .int 0])).length) Slot.unset).toArray = ls at hl ⊢
  have hl : lv_has ls 3 [(0, .ref (h 0)), (1, .int (nI k)), (2, .int 0)] := hl
  have hinX5 : ∀ w ∈ wsX50, w ∈ wsX5_key := fun _ h => List.mem_cons_of_mem _ (List.mem_append_right _ h)
  have hP : va_P D vwCl (zWM cI cJ cZ h th (n, L) ((zcb kt pt), (zcb km pm), (zcb kl pl)) mc (run, wc, nu, lc, le, af, tr, ms, cl, tm) (co, yn, yh, pa) ++ R) s.heap := hP
  have hD : va_D (zAb B) (zWM cI cJ cZ h th (n, L) ((zcb kt pt), (zcb km pm), (zcb kl pl)) mc (run, wc, nu, lc, le, af, tr, ms, cl, tm) (co, yn, yh, pa) ++ R) := hD
  refine lv_aload_n hx hb dX5_key_0 rfl (lv_at hl 0 rfl) ?_
  refine lv_iconst (v := 0) hx hb dX5_key_1 (by decide) ?_
  refine va_put (ci := 5) (v := .int 0) (ty := .int) (C := RX5) (T := TX5) (N := 20) hx hb hts hinX5 tyX5 tyX5_ok nmX5 hown hK hP hD hS 0 rfl rfl 0 (by decide) (hts (.fieldLink RX5 43 "TypingTutorModel" "thrown" "I") (List.mem_of_getElem? (i := 1) rfl)) (fun _ h9 => h9) rfl (by decide +kernel) rfl rfl (Nat.le_of_ble_eq_true rfl) dX5_key_2 (fun H locs hP hD hS => ?_)
  have hP : va_P D vwCl (zWM cI cJ cZ h 0 (n, L) ((zcb kt pt), (zcb km pm), (zcb kl pl)) mc (run, wc, nu, lc, le, af, tr, ms, cl, tm) (co, yn, yh, pa) ++ R) _ := hP
  have hD : va_D (zAb B) (zWM cI cJ cZ h 0 (n, L) ((zcb kt pt), (zcb km pm), (zcb kl pl)) mc (run, wc, nu, lc, le, af, tr, ms, cl, tm) (co, yn, yh, pa) ++ R) := hD
  refine lv_iload_n hx hb dX5_key_5 rfl (lv_at hl 1 rfl) ?_
  refine zci (zrS (As := [.int (nI k)]) (rest := []) ⟨hx, hb, hml, hown, hts⟩ (zS hP hD hK hE hB hS) (c_X5_isKey  ) (va_cwS 1 hts gX5_key_X5_isKey rfl rfl rfl hds_X5_isKey ⟨Nat.le_of_ble_eq_true rfl, Nat.le_of_ble_eq_true rfl⟩) rfl rfl hl.1 rfl (lv_room (Nat.le_of_ble_eq_true rfl)) dX5_key_6 ⟨Nat.le_of_ble_eq_true rfl, Nat.le_of_ble_eq_true rfl⟩) hS (fun H locs hP hD hS => ?_)
  have hP : va_P D vwCl (zWM cI cJ cZ h 0 (n, L) ((zcb kt pt), (zcb km pm), (zcb kl pl)) mc (run, wc, nu, lc, le, af, tr, ms, cl, tm) (co, yn, yh, pa) ++ R) _ := hP
  have hD : va_D (zAb B) (zWM cI cJ cZ h 0 (n, L) ((zcb kt pt), (zcb km pm), (zcb kl pl)) mc (run, wc, nu, lc, le, af, tr, ms, cl, tm) (co, yn, yh, pa) ++ R) := hD
  refine lv_if_eq (tgt := 30) hx hb dX5_key_9 (by decide) (fun c_1 => ?_) (fun c_1 => ?_)
  · skip
    have c_1 := zq_0 c_1
    exact absurd ⟨nI_pos (by omega), nI_ge hk (by decide)⟩ c_1
  · skip
    have c_1 := zq_n c_1
    refine lv_iload_n hx hb dX5_key_12 rfl (lv_at hl 2 rfl) ?_
    refine lv_if_lt (tgt := 30) hx hb dX5_key_13 (by decide) (fun c_2 => ?_) (fun c_2 => ?_)
    · skip
      exfalso; first | omega | (revert c_2; decide) | (exact absurd rfl c_2) | simp_all
    · skip
      refine lv_iload_n hx hb dX5_key_16 rfl (lv_at hl 2 rfl) ?_
      refine lv_iconst (v := 2) hx hb dX5_key_17 (by decide) ?_
      refine lv_icmp_gt (tgt := 30) hx hb dX5_key_18 (by decide) (fun c_3 => ?_) (fun c_3 => ?_)
      · skip
        exfalso; first | omega | (revert c_3; decide) | (exact absurd rfl c_3) | simp_all
      · skip
        refine lv_aload_n hx hb dX5_key_21 rfl (lv_at hl 0 rfl) ?_
        refine lv_iload_n hx hb dX5_key_22 rfl (lv_at hl 1 rfl) ?_
        refine lv_iload_n hx hb dX5_key_23 rfl (lv_at hl 2 rfl) ?_
        refine zci (zrV (As := [.int (nI k), .int 0]) (rest := []) ⟨hx, hb, hml, hown, hts⟩ (zV 0 hP hD hK hE hB hS rfl rfl) (c_X5_known_k0 (k := k) (by omega)) (cwV 2 hts gX5_key_X5_known rfl rfl rfl hdv_X5_known ⟨Nat.le_of_ble_eq_true rfl, Nat.le_of_ble_eq_true rfl⟩) rfl rfl hl.1 rfl (lv_room (Nat.le_of_ble_eq_true rfl)) dX5_key_24 ⟨Nat.le_of_ble_eq_true rfl, Nat.le_of_ble_eq_true rfl⟩) hS (fun H locs hP hD hS => ?_)
        have hP : va_P D vwCl (zWM cI cJ cZ h 0 (n, L) ((zcb kt pt), (zcb km pm), (zcb kl pl)) mc (run, wc, nu, lc, le, af, tr, ms, cl, tm) (co, yn, yh, pa) ++ R) _ := hP
        have hD : va_D (zAb B) (zWM cI cJ cZ h 0 (n, L) ((zcb kt pt), (zcb km pm), (zcb kl pl)) mc (run, wc, nu, lc, le, af, tr, ms, cl, tm) (co, yn, yh, pa) ++ R) := hD
        refine lv_goto (tgt := 35) hx hb dX5_key_27 (by decide) ?_
        exact W.iret (v := (kt k)) hx hb hr (fun t ht hW => ⟨⟨_, (), rfl, rfl, by rw [ht]; exact hP, hD⟩, hS.F ht⟩) hS.2.2 dX5_key_35

set_option maxHeartbeats 1000000 in
set_option maxRecDepth 100000 in
theorem c_X5_key_1 {l : Launch} {B kr kp : Nat} {D : va_G} {cI cJ cZ : ClassId} {h : Nat → Nat} {R : va_W} {th : Int32} {n : Nat} {L : Nat → Int64} {kt : Nat → Int32} {km : Nat → Int32} {kl : Nat → Int32} {pt : Nat → Int32} {pm : Nat → Int32} {pl : Nat → Int32} {nu : Nat → Int32} {le : Nat → Int32} {af : Nat → Int32} {run : Bool} {wc : Nat} {lc : Nat} {tr : Nat} {cl : Nat} {tm : Nat} {ms : Nat} {co : Nat} {yn : Nat} {yh : Nat → Int32} {pa : Int32} {mc : Nat → Int32} {k : Nat}   (hk : k < 26) : Met l yX5_key wsX5_key ({ frames := 1, cells := 0, slots := 0, locals := 22 }) (zPc B kr kp D (zTy cI cJ cZ) (zWM cI cJ cZ h th (n, L) ((zcb kt pt), (zcb km pm), (zcb kl pl)) mc (run, wc, nu, lc, le, af, tr, ms, cl, tm) (co, yn, yh, pa) ++ R) [.ref (h 0), .int (nI k), .int 1]) (zQi B D (zWM cI cJ cZ h 0 (n, L) ((zcb kt pt), (zcb km pm), (zcb kl pl)) mc (run, wc, nu, lc, le, af, tr, ms, cl, tm) (co, yn, yh, pa) ++ R) (km k)) 0 0 (zAb B) := by
  refine Met.ofW (cc := cX5_key) (maxL := 3) (ret := (some .int)) (by decide) rfl ?_
  intro p e s m args below meth c s₁ B0 hml hv
  obtain ⟨rfl, hP, hD, hK, hE, hB⟩ := hv
  have hx := B0.exec
  have hb := B0.bytes
  have hr := B0.returns
  have hts := atoms_spec (ws := wsX5_key) B0.pre
  have hown : s.vm.findClass RX5 = some m.cls := findClass_of_methodNamed B0.named
  have hlocks := B0.notSynchronized
  have hA : ∀ q : Nat, s.heap.size ≤ q → zAb B q := fun q hq => Nat.le_trans hB hq
  have hS : va_S (zAb B) s.heap s.heap [] := va_S.rf
  have hl := lv_entry ([.ref (h 0), .int (nI k), .int 1]) (n := 3) (Nat.le_of_ble_eq_true rfl)
  rw [lg_entry_eq]
  generalize (lg_sl ([.ref (h 0), .int (nI k), .int 1]) ++ List.replicate (3 - (lg_sl ([.ref (h 0), .int (nI k), .int 1])).length) Slot.unset).toArray = ls at hl ⊢
  have hl : lv_has ls 3 [(0, .ref (h 0)), (1, .int (nI k)), (2, .int 1)] := hl
  have hinX5 : ∀ w ∈ wsX50, w ∈ wsX5_key := fun _ h => List.mem_cons_of_mem _ (List.mem_append_right _ h)
  have hP : va_P D vwCl (zWM cI cJ cZ h th (n, L) ((zcb kt pt), (zcb km pm), (zcb kl pl)) mc (run, wc, nu, lc, le, af, tr, ms, cl, tm) (co, yn, yh, pa) ++ R) s.heap := hP
  have hD : va_D (zAb B) (zWM cI cJ cZ h th (n, L) ((zcb kt pt), (zcb km pm), (zcb kl pl)) mc (run, wc, nu, lc, le, af, tr, ms, cl, tm) (co, yn, yh, pa) ++ R) := hD
  refine lv_aload_n hx hb dX5_key_0 rfl (lv_at hl 0 rfl) ?_
  refine lv_iconst (v := 0) hx hb dX5_key_1 (by decide) ?_
  refine va_put (ci := 5) (v := .int 0) (ty := .int) (C := RX5) (T := TX5) (N := 20) hx hb hts hinX5 tyX5 tyX5_ok nmX5 hown hK hP hD hS 0 rfl rfl 0 (by decide) (hts (.fieldLink RX5 43 "TypingTutorModel" "thrown" "I") (List.mem_of_getElem? (i := 1) rfl)) (fun _ h9 => h9) rfl (by decide +kernel) rfl rfl (Nat.le_of_ble_eq_true rfl) dX5_key_2 (fun H locs hP hD hS => ?_)
  have hP : va_P D vwCl (zWM cI cJ cZ h 0 (n, L) ((zcb kt pt), (zcb km pm), (zcb kl pl)) mc (run, wc, nu, lc, le, af, tr, ms, cl, tm) (co, yn, yh, pa) ++ R) _ := hP
  have hD : va_D (zAb B) (zWM cI cJ cZ h 0 (n, L) ((zcb kt pt), (zcb km pm), (zcb kl pl)) mc (run, wc, nu, lc, le, af, tr, ms, cl, tm) (co, yn, yh, pa) ++ R) := hD
  refine lv_iload_n hx hb dX5_key_5 rfl (lv_at hl 1 rfl) ?_
  refine zci (zrS (As := [.int (nI k)]) (rest := []) ⟨hx, hb, hml, hown, hts⟩ (zS hP hD hK hE hB hS) (c_X5_isKey  ) (va_cwS 1 hts gX5_key_X5_isKey rfl rfl rfl hds_X5_isKey ⟨Nat.le_of_ble_eq_true rfl, Nat.le_of_ble_eq_true rfl⟩) rfl rfl hl.1 rfl (lv_room (Nat.le_of_ble_eq_true rfl)) dX5_key_6 ⟨Nat.le_of_ble_eq_true rfl, Nat.le_of_ble_eq_true rfl⟩) hS (fun H locs hP hD hS => ?_)
  have hP : va_P D vwCl (zWM cI cJ cZ h 0 (n, L) ((zcb kt pt), (zcb km pm), (zcb kl pl)) mc (run, wc, nu, lc, le, af, tr, ms, cl, tm) (co, yn, yh, pa) ++ R) _ := hP
  have hD : va_D (zAb B) (zWM cI cJ cZ h 0 (n, L) ((zcb kt pt), (zcb km pm), (zcb kl pl)) mc (run, wc, nu, lc, le, af, tr, ms, cl, tm) (co, yn, yh, pa) ++ R) := hD
  refine lv_if_eq (tgt := 30) hx hb dX5_key_9 (by decide) (fun c_1 => ?_) (fun c_1 => ?_)
  · skip
    have c_1 := zq_0 c_1
    exact absurd ⟨nI_pos (by omega), nI_ge hk (by decide)⟩ c_1
  · skip
    have c_1 := zq_n c_1
    refine lv_iload_n hx hb dX5_key_12 rfl (lv_at hl 2 rfl) ?_
    refine lv_if_lt (tgt := 30) hx hb dX5_key_13 (by decide) (fun c_2 => ?_) (fun c_2 => ?_)
    · skip
      exfalso; first | omega | (revert c_2; decide) | (exact absurd rfl c_2) | simp_all
    · skip
      refine lv_iload_n hx hb dX5_key_16 rfl (lv_at hl 2 rfl) ?_
      refine lv_iconst (v := 2) hx hb dX5_key_17 (by decide) ?_
      refine lv_icmp_gt (tgt := 30) hx hb dX5_key_18 (by decide) (fun c_3 => ?_) (fun c_3 => ?_)
      · skip
        exfalso; first | omega | (revert c_3; decide) | (exact absurd rfl c_3) | simp_all
      · skip
        refine lv_aload_n hx hb dX5_key_21 rfl (lv_at hl 0 rfl) ?_
        refine lv_iload_n hx hb dX5_key_22 rfl (lv_at hl 1 rfl) ?_
        refine lv_iload_n hx hb dX5_key_23 rfl (lv_at hl 2 rfl) ?_
        refine zci (zrV (As := [.int (nI k), .int 1]) (rest := []) ⟨hx, hb, hml, hown, hts⟩ (zV 0 hP hD hK hE hB hS rfl rfl) (c_X5_known_k1 (k := k) (by omega)) (cwV 2 hts gX5_key_X5_known rfl rfl rfl hdv_X5_known ⟨Nat.le_of_ble_eq_true rfl, Nat.le_of_ble_eq_true rfl⟩) rfl rfl hl.1 rfl (lv_room (Nat.le_of_ble_eq_true rfl)) dX5_key_24 ⟨Nat.le_of_ble_eq_true rfl, Nat.le_of_ble_eq_true rfl⟩) hS (fun H locs hP hD hS => ?_)
        have hP : va_P D vwCl (zWM cI cJ cZ h 0 (n, L) ((zcb kt pt), (zcb km pm), (zcb kl pl)) mc (run, wc, nu, lc, le, af, tr, ms, cl, tm) (co, yn, yh, pa) ++ R) _ := hP
        have hD : va_D (zAb B) (zWM cI cJ cZ h 0 (n, L) ((zcb kt pt), (zcb km pm), (zcb kl pl)) mc (run, wc, nu, lc, le, af, tr, ms, cl, tm) (co, yn, yh, pa) ++ R) := hD
        refine lv_goto (tgt := 35) hx hb dX5_key_27 (by decide) ?_
        exact W.iret (v := (km k)) hx hb hr (fun t ht hW => ⟨⟨_, (), rfl, rfl, by rw [ht]; exact hP, hD⟩, hS.F ht⟩) hS.2.2 dX5_key_35

set_option maxHeartbeats 1000000 in
set_option maxRecDepth 100000 in
theorem c_X5_key_2 {l : Launch} {B kr kp : Nat} {D : va_G} {cI cJ cZ : ClassId} {h : Nat → Nat} {R : va_W} {th : Int32} {n : Nat} {L : Nat → Int64} {kt : Nat → Int32} {km : Nat → Int32} {kl : Nat → Int32} {pt : Nat → Int32} {pm : Nat → Int32} {pl : Nat → Int32} {nu : Nat → Int32} {le : Nat → Int32} {af : Nat → Int32} {run : Bool} {wc : Nat} {lc : Nat} {tr : Nat} {cl : Nat} {tm : Nat} {ms : Nat} {co : Nat} {yn : Nat} {yh : Nat → Int32} {pa : Int32} {mc : Nat → Int32} {k : Nat}   (hk : k < 26) : Met l yX5_key wsX5_key ({ frames := 1, cells := 0, slots := 0, locals := 22 }) (zPc B kr kp D (zTy cI cJ cZ) (zWM cI cJ cZ h th (n, L) ((zcb kt pt), (zcb km pm), (zcb kl pl)) mc (run, wc, nu, lc, le, af, tr, ms, cl, tm) (co, yn, yh, pa) ++ R) [.ref (h 0), .int (nI k), .int 2]) (zQi B D (zWM cI cJ cZ h 0 (n, L) ((zcb kt pt), (zcb km pm), (zcb kl pl)) mc (run, wc, nu, lc, le, af, tr, ms, cl, tm) (co, yn, yh, pa) ++ R) (kl k)) 0 0 (zAb B) := by
  refine Met.ofW (cc := cX5_key) (maxL := 3) (ret := (some .int)) (by decide) rfl ?_
  intro p e s m args below meth c s₁ B0 hml hv
  obtain ⟨rfl, hP, hD, hK, hE, hB⟩ := hv
  have hx := B0.exec
  have hb := B0.bytes
  have hr := B0.returns
  have hts := atoms_spec (ws := wsX5_key) B0.pre
  have hown : s.vm.findClass RX5 = some m.cls := findClass_of_methodNamed B0.named
  have hlocks := B0.notSynchronized
  have hA : ∀ q : Nat, s.heap.size ≤ q → zAb B q := fun q hq => Nat.le_trans hB hq
  have hS : va_S (zAb B) s.heap s.heap [] := va_S.rf
  have hl := lv_entry ([.ref (h 0), .int (nI k), .int 2]) (n := 3) (Nat.le_of_ble_eq_true rfl)
  rw [lg_entry_eq]
  generalize (lg_sl ([.ref (h 0), .int (nI k), .int 2]) ++ List.replicate (3 - (lg_sl ([.ref (h 0), .int (nI k), .int 2])).length) Slot.unset).toArray = ls at hl ⊢
  have hl : lv_has ls 3 [(0, .ref (h 0)), (1, .int (nI k)), (2, .int 2)] := hl
  have hinX5 : ∀ w ∈ wsX50, w ∈ wsX5_key := fun _ h => List.mem_cons_of_mem _ (List.mem_append_right _ h)
  have hP : va_P D vwCl (zWM cI cJ cZ h th (n, L) ((zcb kt pt), (zcb km pm), (zcb kl pl)) mc (run, wc, nu, lc, le, af, tr, ms, cl, tm) (co, yn, yh, pa) ++ R) s.heap := hP
  have hD : va_D (zAb B) (zWM cI cJ cZ h th (n, L) ((zcb kt pt), (zcb km pm), (zcb kl pl)) mc (run, wc, nu, lc, le, af, tr, ms, cl, tm) (co, yn, yh, pa) ++ R) := hD
  refine lv_aload_n hx hb dX5_key_0 rfl (lv_at hl 0 rfl) ?_
  refine lv_iconst (v := 0) hx hb dX5_key_1 (by decide) ?_
  refine va_put (ci := 5) (v := .int 0) (ty := .int) (C := RX5) (T := TX5) (N := 20) hx hb hts hinX5 tyX5 tyX5_ok nmX5 hown hK hP hD hS 0 rfl rfl 0 (by decide) (hts (.fieldLink RX5 43 "TypingTutorModel" "thrown" "I") (List.mem_of_getElem? (i := 1) rfl)) (fun _ h9 => h9) rfl (by decide +kernel) rfl rfl (Nat.le_of_ble_eq_true rfl) dX5_key_2 (fun H locs hP hD hS => ?_)
  have hP : va_P D vwCl (zWM cI cJ cZ h 0 (n, L) ((zcb kt pt), (zcb km pm), (zcb kl pl)) mc (run, wc, nu, lc, le, af, tr, ms, cl, tm) (co, yn, yh, pa) ++ R) _ := hP
  have hD : va_D (zAb B) (zWM cI cJ cZ h 0 (n, L) ((zcb kt pt), (zcb km pm), (zcb kl pl)) mc (run, wc, nu, lc, le, af, tr, ms, cl, tm) (co, yn, yh, pa) ++ R) := hD
  refine lv_iload_n hx hb dX5_key_5 rfl (lv_at hl 1 rfl) ?_
  refine zci (zrS (As := [.int (nI k)]) (rest := []) ⟨hx, hb, hml, hown, hts⟩ (zS hP hD hK hE hB hS) (c_X5_isKey  ) (va_cwS 1 hts gX5_key_X5_isKey rfl rfl rfl hds_X5_isKey ⟨Nat.le_of_ble_eq_true rfl, Nat.le_of_ble_eq_true rfl⟩) rfl rfl hl.1 rfl (lv_room (Nat.le_of_ble_eq_true rfl)) dX5_key_6 ⟨Nat.le_of_ble_eq_true rfl, Nat.le_of_ble_eq_true rfl⟩) hS (fun H locs hP hD hS => ?_)
  have hP : va_P D vwCl (zWM cI cJ cZ h 0 (n, L) ((zcb kt pt), (zcb km pm), (zcb kl pl)) mc (run, wc, nu, lc, le, af, tr, ms, cl, tm) (co, yn, yh, pa) ++ R) _ := hP
  have hD : va_D (zAb B) (zWM cI cJ cZ h 0 (n, L) ((zcb kt pt), (zcb km pm), (zcb kl pl)) mc (run, wc, nu, lc, le, af, tr, ms, cl, tm) (co, yn, yh, pa) ++ R) := hD
  refine lv_if_eq (tgt := 30) hx hb dX5_key_9 (by decide) (fun c_1 => ?_) (fun c_1 => ?_)
  · skip
    have c_1 := zq_0 c_1
    exact absurd ⟨nI_pos (by omega), nI_ge hk (by decide)⟩ c_1
  · skip
    have c_1 := zq_n c_1
    refine lv_iload_n hx hb dX5_key_12 rfl (lv_at hl 2 rfl) ?_
    refine lv_if_lt (tgt := 30) hx hb dX5_key_13 (by decide) (fun c_2 => ?_) (fun c_2 => ?_)
    · skip
      exfalso; first | omega | (revert c_2; decide) | (exact absurd rfl c_2) | simp_all
    · skip
      refine lv_iload_n hx hb dX5_key_16 rfl (lv_at hl 2 rfl) ?_
      refine lv_iconst (v := 2) hx hb dX5_key_17 (by decide) ?_
      refine lv_icmp_gt (tgt := 30) hx hb dX5_key_18 (by decide) (fun c_3 => ?_) (fun c_3 => ?_)
      · skip
        exfalso; first | omega | (revert c_3; decide) | (exact absurd rfl c_3) | simp_all
      · skip
        refine lv_aload_n hx hb dX5_key_21 rfl (lv_at hl 0 rfl) ?_
        refine lv_iload_n hx hb dX5_key_22 rfl (lv_at hl 1 rfl) ?_
        refine lv_iload_n hx hb dX5_key_23 rfl (lv_at hl 2 rfl) ?_
        refine zci (zrV (As := [.int (nI k), .int 2]) (rest := []) ⟨hx, hb, hml, hown, hts⟩ (zV 0 hP hD hK hE hB hS rfl rfl) (c_X5_known_k2 (k := k) (by omega)) (cwV 2 hts gX5_key_X5_known rfl rfl rfl hdv_X5_known ⟨Nat.le_of_ble_eq_true rfl, Nat.le_of_ble_eq_true rfl⟩) rfl rfl hl.1 rfl (lv_room (Nat.le_of_ble_eq_true rfl)) dX5_key_24 ⟨Nat.le_of_ble_eq_true rfl, Nat.le_of_ble_eq_true rfl⟩) hS (fun H locs hP hD hS => ?_)
        have hP : va_P D vwCl (zWM cI cJ cZ h 0 (n, L) ((zcb kt pt), (zcb km pm), (zcb kl pl)) mc (run, wc, nu, lc, le, af, tr, ms, cl, tm) (co, yn, yh, pa) ++ R) _ := hP
        have hD : va_D (zAb B) (zWM cI cJ cZ h 0 (n, L) ((zcb kt pt), (zcb km pm), (zcb kl pl)) mc (run, wc, nu, lc, le, af, tr, ms, cl, tm) (co, yn, yh, pa) ++ R) := hD
        refine lv_goto (tgt := 35) hx hb dX5_key_27 (by decide) ?_
        exact W.iret (v := (kl k)) hx hb hr (fun t ht hW => ⟨⟨_, (), rfl, rfl, by rw [ht]; exact hP, hD⟩, hS.F ht⟩) hS.2.2 dX5_key_35

set_option maxHeartbeats 1000000 in
set_option maxRecDepth 100000 in
theorem c_X5_key_x {l : Launch} {B kr kp : Nat} {D : va_G} {cI cJ cZ : ClassId} {h : Nat → Nat} {R : va_W} {th : Int32} {n : Nat} {L : Nat → Int64} {kt : Nat → Int32} {km : Nat → Int32} {kl : Nat → Int32} {pt : Nat → Int32} {pm : Nat → Int32} {pl : Nat → Int32} {nu : Nat → Int32} {le : Nat → Int32} {af : Nat → Int32} {run : Bool} {wc : Nat} {lc : Nat} {tr : Nat} {cl : Nat} {tm : Nat} {ms : Nat} {co : Nat} {yn : Nat} {yh : Nat → Int32} {pa : Int32} {mc : Nat → Int32} {a : Int32} {i : Int32}   (h1 : ¬ ((¬ a < 0 ∧ ¬ 26 ≤ a) ∧ ¬ i < 0 ∧ i ≤ 2)) : Met l yX5_key wsX5_key ({ frames := 1, cells := 0, slots := 0, locals := 21 }) (zPc B kr kp D (zTy cI cJ cZ) (zWM cI cJ cZ h th (n, L) ((zcb kt pt), (zcb km pm), (zcb kl pl)) mc (run, wc, nu, lc, le, af, tr, ms, cl, tm) (co, yn, yh, pa) ++ R) [.ref (h 0), .int a, .int i]) (zQi B D (zWM cI cJ cZ h 1 (n, L) ((zcb kt pt), (zcb km pm), (zcb kl pl)) mc (run, wc, nu, lc, le, af, tr, ms, cl, tm) (co, yn, yh, pa) ++ R) 0) 0 0 (zAb B) := by
  refine Met.ofW (cc := cX5_key) (maxL := 3) (ret := (some .int)) (by decide) rfl ?_
  intro p e s m args below meth c s₁ B0 hml hv
  obtain ⟨rfl, hP, hD, hK, hE, hB⟩ := hv
  have hx := B0.exec
  have hb := B0.bytes
  have hr := B0.returns
  have hts := atoms_spec (ws := wsX5_key) B0.pre
  have hown : s.vm.findClass RX5 = some m.cls := findClass_of_methodNamed B0.named
  have hlocks := B0.notSynchronized
  have hA : ∀ q : Nat, s.heap.size ≤ q → zAb B q := fun q hq => Nat.le_trans hB hq
  have hS : va_S (zAb B) s.heap s.heap [] := va_S.rf
  have hl := lv_entry ([.ref (h 0), .int a, .int i]) (n := 3) (Nat.le_of_ble_eq_true rfl)
  rw [lg_entry_eq]
  generalize (lg_sl ([.ref (h 0), .int a, .int i]) ++ List.replicate (3 - (lg_sl ([.ref (h 0), .int a, .int i])).length) Slot.unset).toArray = ls at hl ⊢
  have hl : lv_has ls 3 [(0, .ref (h 0)), (1, .int a), (2, .int i)] := hl
  have hinX5 : ∀ w ∈ wsX50, w ∈ wsX5_key := fun _ h => List.mem_cons_of_mem _ (List.mem_append_right _ h)
  have hP : va_P D vwCl (zWM cI cJ cZ h th (n, L) ((zcb kt pt), (zcb km pm), (zcb kl pl)) mc (run, wc, nu, lc, le, af, tr, ms, cl, tm) (co, yn, yh, pa) ++ R) s.heap := hP
  have hD : va_D (zAb B) (zWM cI cJ cZ h th (n, L) ((zcb kt pt), (zcb km pm), (zcb kl pl)) mc (run, wc, nu, lc, le, af, tr, ms, cl, tm) (co, yn, yh, pa) ++ R) := hD
  refine lv_aload_n hx hb dX5_key_0 rfl (lv_at hl 0 rfl) ?_
  refine lv_iconst (v := 0) hx hb dX5_key_1 (by decide) ?_
  refine va_put (ci := 5) (v := .int 0) (ty := .int) (C := RX5) (T := TX5) (N := 20) hx hb hts hinX5 tyX5 tyX5_ok nmX5 hown hK hP hD hS 0 rfl rfl 0 (by decide) (hts (.fieldLink RX5 43 "TypingTutorModel" "thrown" "I") (List.mem_of_getElem? (i := 1) rfl)) (fun _ h9 => h9) rfl (by decide +kernel) rfl rfl (Nat.le_of_ble_eq_true rfl) dX5_key_2 (fun H locs hP hD hS => ?_)
  have hP : va_P D vwCl (zWM cI cJ cZ h 0 (n, L) ((zcb kt pt), (zcb km pm), (zcb kl pl)) mc (run, wc, nu, lc, le, af, tr, ms, cl, tm) (co, yn, yh, pa) ++ R) _ := hP
  have hD : va_D (zAb B) (zWM cI cJ cZ h 0 (n, L) ((zcb kt pt), (zcb km pm), (zcb kl pl)) mc (run, wc, nu, lc, le, af, tr, ms, cl, tm) (co, yn, yh, pa) ++ R) := hD
  refine lv_iload_n hx hb dX5_key_5 rfl (lv_at hl 1 rfl) ?_
  refine zci (zrS (As := [.int a]) (rest := []) ⟨hx, hb, hml, hown, hts⟩ (zS hP hD hK hE hB hS) (c_X5_isKey  ) (va_cwS 1 hts gX5_key_X5_isKey rfl rfl rfl hds_X5_isKey ⟨Nat.le_of_ble_eq_true rfl, Nat.le_of_ble_eq_true rfl⟩) rfl rfl hl.1 rfl (lv_room (Nat.le_of_ble_eq_true rfl)) dX5_key_6 ⟨Nat.le_of_ble_eq_true rfl, Nat.le_of_ble_eq_true rfl⟩) hS (fun H locs hP hD hS => ?_)
  have hP : va_P D vwCl (zWM cI cJ cZ h 0 (n, L) ((zcb kt pt), (zcb km pm), (zcb kl pl)) mc (run, wc, nu, lc, le, af, tr, ms, cl, tm) (co, yn, yh, pa) ++ R) _ := hP
  have hD : va_D (zAb B) (zWM cI cJ cZ h 0 (n, L) ((zcb kt pt), (zcb km pm), (zcb kl pl)) mc (run, wc, nu, lc, le, af, tr, ms, cl, tm) (co, yn, yh, pa) ++ R) := hD
  refine lv_if_eq (tgt := 30) hx hb dX5_key_9 (by decide) (fun c_1 => ?_) (fun c_1 => ?_)
  · skip
    have c_1 := zq_0 c_1
    refine lv_aload_n hx hb dX5_key_30 rfl (lv_at hl 0 rfl) ?_
    refine lv_iconst (v := 1) hx hb dX5_key_31 (by decide) ?_
    refine zci (zrV (As := [.int 1]) (rest := []) ⟨hx, hb, hml, hown, hts⟩ (zV 0 hP hD hK hE hB hS rfl rfl) (c_X5_fail  ) (cwV 1 hts gX5_key_X5_fail rfl rfl rfl hdv_X5_fail ⟨Nat.le_of_ble_eq_true rfl, Nat.le_of_ble_eq_true rfl⟩) rfl rfl hl.1 rfl (lv_room (Nat.le_of_ble_eq_true rfl)) dX5_key_32 ⟨Nat.le_of_ble_eq_true rfl, Nat.le_of_ble_eq_true rfl⟩) hS (fun H locs hP hD hS => ?_)
    have hP : va_P D vwCl (zWM cI cJ cZ h 1 (n, L) ((zcb kt pt), (zcb km pm), (zcb kl pl)) mc (run, wc, nu, lc, le, af, tr, ms, cl, tm) (co, yn, yh, pa) ++ R) _ := hP
    have hD : va_D (zAb B) (zWM cI cJ cZ h 1 (n, L) ((zcb kt pt), (zcb km pm), (zcb kl pl)) mc (run, wc, nu, lc, le, af, tr, ms, cl, tm) (co, yn, yh, pa) ++ R) := hD
    exact W.iret (v := 0) hx hb hr (fun t ht hW => ⟨⟨_, (), rfl, rfl, by rw [ht]; exact hP, hD⟩, hS.F ht⟩) hS.2.2 dX5_key_35
  · skip
    have c_1 := zq_n c_1
    refine lv_iload_n hx hb dX5_key_12 rfl (lv_at hl 2 rfl) ?_
    refine lv_if_lt (tgt := 30) hx hb dX5_key_13 (by decide) (fun c_2 => ?_) (fun c_2 => ?_)
    · skip
      refine lv_aload_n hx hb dX5_key_30 rfl (lv_at hl 0 rfl) ?_
      refine lv_iconst (v := 1) hx hb dX5_key_31 (by decide) ?_
      refine zci (zrV (As := [.int 1]) (rest := []) ⟨hx, hb, hml, hown, hts⟩ (zV 0 hP hD hK hE hB hS rfl rfl) (c_X5_fail  ) (cwV 1 hts gX5_key_X5_fail rfl rfl rfl hdv_X5_fail ⟨Nat.le_of_ble_eq_true rfl, Nat.le_of_ble_eq_true rfl⟩) rfl rfl hl.1 rfl (lv_room (Nat.le_of_ble_eq_true rfl)) dX5_key_32 ⟨Nat.le_of_ble_eq_true rfl, Nat.le_of_ble_eq_true rfl⟩) hS (fun H locs hP hD hS => ?_)
      have hP : va_P D vwCl (zWM cI cJ cZ h 1 (n, L) ((zcb kt pt), (zcb km pm), (zcb kl pl)) mc (run, wc, nu, lc, le, af, tr, ms, cl, tm) (co, yn, yh, pa) ++ R) _ := hP
      have hD : va_D (zAb B) (zWM cI cJ cZ h 1 (n, L) ((zcb kt pt), (zcb km pm), (zcb kl pl)) mc (run, wc, nu, lc, le, af, tr, ms, cl, tm) (co, yn, yh, pa) ++ R) := hD
      exact W.iret (v := 0) hx hb hr (fun t ht hW => ⟨⟨_, (), rfl, rfl, by rw [ht]; exact hP, hD⟩, hS.F ht⟩) hS.2.2 dX5_key_35
    · skip
      refine lv_iload_n hx hb dX5_key_16 rfl (lv_at hl 2 rfl) ?_
      refine lv_iconst (v := 2) hx hb dX5_key_17 (by decide) ?_
      refine lv_icmp_gt (tgt := 30) hx hb dX5_key_18 (by decide) (fun c_3 => ?_) (fun c_3 => ?_)
      · skip
        refine lv_aload_n hx hb dX5_key_30 rfl (lv_at hl 0 rfl) ?_
        refine lv_iconst (v := 1) hx hb dX5_key_31 (by decide) ?_
        refine zci (zrV (As := [.int 1]) (rest := []) ⟨hx, hb, hml, hown, hts⟩ (zV 0 hP hD hK hE hB hS rfl rfl) (c_X5_fail  ) (cwV 1 hts gX5_key_X5_fail rfl rfl rfl hdv_X5_fail ⟨Nat.le_of_ble_eq_true rfl, Nat.le_of_ble_eq_true rfl⟩) rfl rfl hl.1 rfl (lv_room (Nat.le_of_ble_eq_true rfl)) dX5_key_32 ⟨Nat.le_of_ble_eq_true rfl, Nat.le_of_ble_eq_true rfl⟩) hS (fun H locs hP hD hS => ?_)
        have hP : va_P D vwCl (zWM cI cJ cZ h 1 (n, L) ((zcb kt pt), (zcb km pm), (zcb kl pl)) mc (run, wc, nu, lc, le, af, tr, ms, cl, tm) (co, yn, yh, pa) ++ R) _ := hP
        have hD : va_D (zAb B) (zWM cI cJ cZ h 1 (n, L) ((zcb kt pt), (zcb km pm), (zcb kl pl)) mc (run, wc, nu, lc, le, af, tr, ms, cl, tm) (co, yn, yh, pa) ++ R) := hD
        exact W.iret (v := 0) hx hb hr (fun t ht hW => ⟨⟨_, (), rfl, rfl, by rw [ht]; exact hP, hD⟩, hS.F ht⟩) hS.2.2 dX5_key_35
      · skip
        exact absurd ⟨c_1, c_2, Int32.not_lt.mp c_3⟩ h1

set_option maxHeartbeats 1000000 in
set_option maxRecDepth 100000 in
theorem c_X5_pair_0 {l : Launch} {B kr kp : Nat} {D : va_G} {cI cJ cZ : ClassId} {h : Nat → Nat} {R : va_W} {th : Int32} {n : Nat} {L : Nat → Int64} {kt : Nat → Int32} {km : Nat → Int32} {kl : Nat → Int32} {pt : Nat → Int32} {pm : Nat → Int32} {pl : Nat → Int32} {nu : Nat → Int32} {le : Nat → Int32} {af : Nat → Int32} {run : Bool} {wc : Nat} {lc : Nat} {tr : Nat} {cl : Nat} {tm : Nat} {ms : Nat} {co : Nat} {yn : Nat} {yh : Nat → Int32} {pa : Int32} {mc : Nat → Int32} {a : Nat} {b : Nat}   (h1 : a < 26) (h2 : b < 26) : Met l yX5_pair wsX5_pair ({ frames := 1, cells := 0, slots := 0, locals := 22 }) (zPc B kr kp D (zTy cI cJ cZ) (zWM cI cJ cZ h th (n, L) ((zcb kt pt), (zcb km pm), (zcb kl pl)) mc (run, wc, nu, lc, le, af, tr, ms, cl, tm) (co, yn, yh, pa) ++ R) [.ref (h 0), .int (nI a), .int (nI b), .int 0]) (zQi B D (zWM cI cJ cZ h 0 (n, L) ((zcb kt pt), (zcb km pm), (zcb kl pl)) mc (run, wc, nu, lc, le, af, tr, ms, cl, tm) (co, yn, yh, pa) ++ R) (pt (26 * a + b))) 0 0 (zAb B) := by
  refine Met.ofW (cc := cX5_pair) (maxL := 4) (ret := (some .int)) (by decide) rfl ?_
  intro p e s m args below meth c s₁ B0 hml hv
  obtain ⟨rfl, hP, hD, hK, hE, hB⟩ := hv
  have hx := B0.exec
  have hb := B0.bytes
  have hr := B0.returns
  have hts := atoms_spec (ws := wsX5_pair) B0.pre
  have hown : s.vm.findClass RX5 = some m.cls := findClass_of_methodNamed B0.named
  have hlocks := B0.notSynchronized
  have hA : ∀ q : Nat, s.heap.size ≤ q → zAb B q := fun q hq => Nat.le_trans hB hq
  have hS : va_S (zAb B) s.heap s.heap [] := va_S.rf
  have hl := lv_entry ([.ref (h 0), .int (nI a), .int (nI b), .int 0]) (n := 4) (Nat.le_of_ble_eq_true rfl)
  rw [lg_entry_eq]
  generalize (lg_sl ([.ref (h 0), .int (nI a), .int (nI b), .int 0]) ++ List.replicate (4 - (lg_sl ([.ref (h 0), .int (nI a), .int (nI b), .int 0])).length) Slot.unset).toArray = ls at hl ⊢
  have hl : lv_has ls 4 [(0, .ref (h 0)), (1, .int (nI a)), (2, .int (nI b)), (3, .int 0)] := hl
  have hinX5 : ∀ w ∈ wsX50, w ∈ wsX5_pair := fun _ h => List.mem_cons_of_mem _ (List.mem_append_right _ h)
  have hP : va_P D vwCl (zWM cI cJ cZ h th (n, L) ((zcb kt pt), (zcb km pm), (zcb kl pl)) mc (run, wc, nu, lc, le, af, tr, ms, cl, tm) (co, yn, yh, pa) ++ R) s.heap := hP
  have hD : va_D (zAb B) (zWM cI cJ cZ h th (n, L) ((zcb kt pt), (zcb km pm), (zcb kl pl)) mc (run, wc, nu, lc, le, af, tr, ms, cl, tm) (co, yn, yh, pa) ++ R) := hD
  refine lv_aload_n hx hb dX5_pair_0 rfl (lv_at hl 0 rfl) ?_
  refine lv_iconst (v := 0) hx hb dX5_pair_1 (by decide) ?_
  refine va_put (ci := 5) (v := .int 0) (ty := .int) (C := RX5) (T := TX5) (N := 20) hx hb hts hinX5 tyX5 tyX5_ok nmX5 hown hK hP hD hS 0 rfl rfl 0 (by decide) (hts (.fieldLink RX5 43 "TypingTutorModel" "thrown" "I") (List.mem_of_getElem? (i := 1) rfl)) (fun _ h9 => h9) rfl (by decide +kernel) rfl rfl (Nat.le_of_ble_eq_true rfl) dX5_pair_2 (fun H locs hP hD hS => ?_)
  have hP : va_P D vwCl (zWM cI cJ cZ h 0 (n, L) ((zcb kt pt), (zcb km pm), (zcb kl pl)) mc (run, wc, nu, lc, le, af, tr, ms, cl, tm) (co, yn, yh, pa) ++ R) _ := hP
  have hD : va_D (zAb B) (zWM cI cJ cZ h 0 (n, L) ((zcb kt pt), (zcb km pm), (zcb kl pl)) mc (run, wc, nu, lc, le, af, tr, ms, cl, tm) (co, yn, yh, pa) ++ R) := hD
  refine lv_iload_n hx hb dX5_pair_5 rfl (lv_at hl 1 rfl) ?_
  refine zci (zrS (As := [.int (nI a)]) (rest := []) ⟨hx, hb, hml, hown, hts⟩ (zS hP hD hK hE hB hS) (c_X5_isKey  ) (va_cwS 1 hts gX5_pair_X5_isKey rfl rfl rfl hds_X5_isKey ⟨Nat.le_of_ble_eq_true rfl, Nat.le_of_ble_eq_true rfl⟩) rfl rfl hl.1 rfl (lv_room (Nat.le_of_ble_eq_true rfl)) dX5_pair_6 ⟨Nat.le_of_ble_eq_true rfl, Nat.le_of_ble_eq_true rfl⟩) hS (fun H locs hP hD hS => ?_)
  have hP : va_P D vwCl (zWM cI cJ cZ h 0 (n, L) ((zcb kt pt), (zcb km pm), (zcb kl pl)) mc (run, wc, nu, lc, le, af, tr, ms, cl, tm) (co, yn, yh, pa) ++ R) _ := hP
  have hD : va_D (zAb B) (zWM cI cJ cZ h 0 (n, L) ((zcb kt pt), (zcb km pm), (zcb kl pl)) mc (run, wc, nu, lc, le, af, tr, ms, cl, tm) (co, yn, yh, pa) ++ R) := hD
  refine lv_if_eq (tgt := 28) hx hb dX5_pair_9 (by decide) (fun c_1 => ?_) (fun c_1 => ?_)
  · skip
    have c_1 := zq_0 c_1
    exact absurd ⟨nI_pos (by omega), nI_ge h1 (by decide)⟩ c_1
  · skip
    have c_1 := zq_n c_1
    refine lv_iload_n hx hb dX5_pair_12 rfl (lv_at hl 2 rfl) ?_
    refine zci (zrS (As := [.int (nI b)]) (rest := []) ⟨hx, hb, hml, hown, hts⟩ (zS hP hD hK hE hB hS) (c_X5_isKey  ) (va_cwS 1 hts gX5_pair_X5_isKey rfl rfl rfl hds_X5_isKey ⟨Nat.le_of_ble_eq_true rfl, Nat.le_of_ble_eq_true rfl⟩) rfl rfl hl.1 rfl (lv_room (Nat.le_of_ble_eq_true rfl)) dX5_pair_13 ⟨Nat.le_of_ble_eq_true rfl, Nat.le_of_ble_eq_true rfl⟩) hS (fun H locs hP hD hS => ?_)
    have hP : va_P D vwCl (zWM cI cJ cZ h 0 (n, L) ((zcb kt pt), (zcb km pm), (zcb kl pl)) mc (run, wc, nu, lc, le, af, tr, ms, cl, tm) (co, yn, yh, pa) ++ R) _ := hP
    have hD : va_D (zAb B) (zWM cI cJ cZ h 0 (n, L) ((zcb kt pt), (zcb km pm), (zcb kl pl)) mc (run, wc, nu, lc, le, af, tr, ms, cl, tm) (co, yn, yh, pa) ++ R) := hD
    refine lv_if_eq (tgt := 28) hx hb dX5_pair_16 (by decide) (fun c_2 => ?_) (fun c_2 => ?_)
    · skip
      have c_2 := zq_0 c_2
      exact absurd ⟨nI_pos (by omega), nI_ge h2 (by decide)⟩ c_2
    · skip
      have c_2 := zq_n c_2
      refine lv_iload_n hx hb dX5_pair_19 rfl (lv_at hl 3 rfl) ?_
      refine lv_if_lt (tgt := 28) hx hb dX5_pair_20 (by decide) (fun c_3 => ?_) (fun c_3 => ?_)
      · skip
        exfalso; first | omega | (revert c_3; decide) | (exact absurd rfl c_3) | simp_all
      · skip
        refine lv_iload_n hx hb dX5_pair_23 rfl (lv_at hl 3 rfl) ?_
        refine lv_iconst (v := 3) hx hb dX5_pair_24 (by decide) ?_
        refine lv_icmp_le (tgt := 34) hx hb dX5_pair_25 (by decide) (fun c_4 => ?_) (fun c_4 => ?_)
        · skip
          refine lv_iload_n hx hb dX5_pair_34 rfl (lv_at hl 3 rfl) ?_
          refine lv_iconst (v := 3) hx hb dX5_pair_35 (by decide) ?_
          refine lv_icmp_ne (tgt := 48) hx hb dX5_pair_36 (by decide) (fun c_5 => ?_) (fun c_5 => ?_)
          · skip
            refine lv_aload_n hx hb dX5_pair_48 rfl (lv_at hl 0 rfl) ?_
            refine lv_iload_n hx hb dX5_pair_49 rfl (lv_at hl 1 rfl) ?_
            refine lv_iload_n hx hb dX5_pair_50 rfl (lv_at hl 2 rfl) ?_
            refine zci (zrS (As := [.int (nI a), .int (nI b)]) (rest := [.ref (h 0)]) ⟨hx, hb, hml, hown, hts⟩ (zS hP hD hK hE hB hS) (c_X5_pairOf (a := a) (b := b) ) (va_cwS 2 hts gX5_pair_X5_pairOf rfl rfl rfl hds_X5_pairOf ⟨Nat.le_of_ble_eq_true rfl, Nat.le_of_ble_eq_true rfl⟩) rfl rfl hl.1 rfl (lv_room (Nat.le_of_ble_eq_true rfl)) dX5_pair_51 ⟨Nat.le_of_ble_eq_true rfl, Nat.le_of_ble_eq_true rfl⟩) hS (fun H locs hP hD hS => ?_)
            have hP : va_P D vwCl (zWM cI cJ cZ h 0 (n, L) ((zcb kt pt), (zcb km pm), (zcb kl pl)) mc (run, wc, nu, lc, le, af, tr, ms, cl, tm) (co, yn, yh, pa) ++ R) _ := hP
            have hD : va_D (zAb B) (zWM cI cJ cZ h 0 (n, L) ((zcb kt pt), (zcb km pm), (zcb kl pl)) mc (run, wc, nu, lc, le, af, tr, ms, cl, tm) (co, yn, yh, pa) ++ R) := hD
            refine lv_iload_n hx hb dX5_pair_54 rfl (lv_at hl 3 rfl) ?_
            refine zci (zrV (As := [.int (nI (26 + (26 * a + b))), .int 0]) (rest := []) ⟨hx, hb, hml, hown, hts⟩ (zV 0 hP hD hK hE hB hS rfl rfl) (c_X5_known_p0 (k := (26 * a + b)) (by omega)) (cwV 2 hts gX5_pair_X5_known rfl rfl rfl hdv_X5_known ⟨Nat.le_of_ble_eq_true rfl, Nat.le_of_ble_eq_true rfl⟩) rfl rfl hl.1 rfl (lv_room (Nat.le_of_ble_eq_true rfl)) dX5_pair_55 ⟨Nat.le_of_ble_eq_true rfl, Nat.le_of_ble_eq_true rfl⟩) hS (fun H locs hP hD hS => ?_)
            have hP : va_P D vwCl (zWM cI cJ cZ h 0 (n, L) ((zcb kt pt), (zcb km pm), (zcb kl pl)) mc (run, wc, nu, lc, le, af, tr, ms, cl, tm) (co, yn, yh, pa) ++ R) _ := hP
            have hD : va_D (zAb B) (zWM cI cJ cZ h 0 (n, L) ((zcb kt pt), (zcb km pm), (zcb kl pl)) mc (run, wc, nu, lc, le, af, tr, ms, cl, tm) (co, yn, yh, pa) ++ R) := hD
            exact W.iret (v := (pt (26 * a + b))) hx hb hr (fun t ht hW => ⟨⟨_, (), rfl, rfl, by rw [ht]; exact hP, hD⟩, hS.F ht⟩) hS.2.2 dX5_pair_58
          · skip
            exfalso; first | omega | (revert c_5; decide) | (exact absurd rfl c_5) | simp_all
        · skip
          exfalso; first | omega | (revert c_4; decide) | (exact absurd rfl c_4) | simp_all

set_option maxHeartbeats 1000000 in
set_option maxRecDepth 100000 in
theorem c_X5_pair_1 {l : Launch} {B kr kp : Nat} {D : va_G} {cI cJ cZ : ClassId} {h : Nat → Nat} {R : va_W} {th : Int32} {n : Nat} {L : Nat → Int64} {kt : Nat → Int32} {km : Nat → Int32} {kl : Nat → Int32} {pt : Nat → Int32} {pm : Nat → Int32} {pl : Nat → Int32} {nu : Nat → Int32} {le : Nat → Int32} {af : Nat → Int32} {run : Bool} {wc : Nat} {lc : Nat} {tr : Nat} {cl : Nat} {tm : Nat} {ms : Nat} {co : Nat} {yn : Nat} {yh : Nat → Int32} {pa : Int32} {mc : Nat → Int32} {a : Nat} {b : Nat}   (h1 : a < 26) (h2 : b < 26) : Met l yX5_pair wsX5_pair ({ frames := 1, cells := 0, slots := 0, locals := 22 }) (zPc B kr kp D (zTy cI cJ cZ) (zWM cI cJ cZ h th (n, L) ((zcb kt pt), (zcb km pm), (zcb kl pl)) mc (run, wc, nu, lc, le, af, tr, ms, cl, tm) (co, yn, yh, pa) ++ R) [.ref (h 0), .int (nI a), .int (nI b), .int 1]) (zQi B D (zWM cI cJ cZ h 0 (n, L) ((zcb kt pt), (zcb km pm), (zcb kl pl)) mc (run, wc, nu, lc, le, af, tr, ms, cl, tm) (co, yn, yh, pa) ++ R) (pm (26 * a + b))) 0 0 (zAb B) := by
  refine Met.ofW (cc := cX5_pair) (maxL := 4) (ret := (some .int)) (by decide) rfl ?_
  intro p e s m args below meth c s₁ B0 hml hv
  obtain ⟨rfl, hP, hD, hK, hE, hB⟩ := hv
  have hx := B0.exec
  have hb := B0.bytes
  have hr := B0.returns
  have hts := atoms_spec (ws := wsX5_pair) B0.pre
  have hown : s.vm.findClass RX5 = some m.cls := findClass_of_methodNamed B0.named
  have hlocks := B0.notSynchronized
  have hA : ∀ q : Nat, s.heap.size ≤ q → zAb B q := fun q hq => Nat.le_trans hB hq
  have hS : va_S (zAb B) s.heap s.heap [] := va_S.rf
  have hl := lv_entry ([.ref (h 0), .int (nI a), .int (nI b), .int 1]) (n := 4) (Nat.le_of_ble_eq_true rfl)
  rw [lg_entry_eq]
  generalize (lg_sl ([.ref (h 0), .int (nI a), .int (nI b), .int 1]) ++ List.replicate (4 - (lg_sl ([.ref (h 0), .int (nI a), .int (nI b), .int 1])).length) Slot.unset).toArray = ls at hl ⊢
  have hl : lv_has ls 4 [(0, .ref (h 0)), (1, .int (nI a)), (2, .int (nI b)), (3, .int 1)] := hl
  have hinX5 : ∀ w ∈ wsX50, w ∈ wsX5_pair := fun _ h => List.mem_cons_of_mem _ (List.mem_append_right _ h)
  have hP : va_P D vwCl (zWM cI cJ cZ h th (n, L) ((zcb kt pt), (zcb km pm), (zcb kl pl)) mc (run, wc, nu, lc, le, af, tr, ms, cl, tm) (co, yn, yh, pa) ++ R) s.heap := hP
  have hD : va_D (zAb B) (zWM cI cJ cZ h th (n, L) ((zcb kt pt), (zcb km pm), (zcb kl pl)) mc (run, wc, nu, lc, le, af, tr, ms, cl, tm) (co, yn, yh, pa) ++ R) := hD
  refine lv_aload_n hx hb dX5_pair_0 rfl (lv_at hl 0 rfl) ?_
  refine lv_iconst (v := 0) hx hb dX5_pair_1 (by decide) ?_
  refine va_put (ci := 5) (v := .int 0) (ty := .int) (C := RX5) (T := TX5) (N := 20) hx hb hts hinX5 tyX5 tyX5_ok nmX5 hown hK hP hD hS 0 rfl rfl 0 (by decide) (hts (.fieldLink RX5 43 "TypingTutorModel" "thrown" "I") (List.mem_of_getElem? (i := 1) rfl)) (fun _ h9 => h9) rfl (by decide +kernel) rfl rfl (Nat.le_of_ble_eq_true rfl) dX5_pair_2 (fun H locs hP hD hS => ?_)
  have hP : va_P D vwCl (zWM cI cJ cZ h 0 (n, L) ((zcb kt pt), (zcb km pm), (zcb kl pl)) mc (run, wc, nu, lc, le, af, tr, ms, cl, tm) (co, yn, yh, pa) ++ R) _ := hP
  have hD : va_D (zAb B) (zWM cI cJ cZ h 0 (n, L) ((zcb kt pt), (zcb km pm), (zcb kl pl)) mc (run, wc, nu, lc, le, af, tr, ms, cl, tm) (co, yn, yh, pa) ++ R) := hD
  refine lv_iload_n hx hb dX5_pair_5 rfl (lv_at hl 1 rfl) ?_
  refine zci (zrS (As := [.int (nI a)]) (rest := []) ⟨hx, hb, hml, hown, hts⟩ (zS hP hD hK hE hB hS) (c_X5_isKey  ) (va_cwS 1 hts gX5_pair_X5_isKey rfl rfl rfl hds_X5_isKey ⟨Nat.le_of_ble_eq_true rfl, Nat.le_of_ble_eq_true rfl⟩) rfl rfl hl.1 rfl (lv_room (Nat.le_of_ble_eq_true rfl)) dX5_pair_6 ⟨Nat.le_of_ble_eq_true rfl, Nat.le_of_ble_eq_true rfl⟩) hS (fun H locs hP hD hS => ?_)
  have hP : va_P D vwCl (zWM cI cJ cZ h 0 (n, L) ((zcb kt pt), (zcb km pm), (zcb kl pl)) mc (run, wc, nu, lc, le, af, tr, ms, cl, tm) (co, yn, yh, pa) ++ R) _ := hP
  have hD : va_D (zAb B) (zWM cI cJ cZ h 0 (n, L) ((zcb kt pt), (zcb km pm), (zcb kl pl)) mc (run, wc, nu, lc, le, af, tr, ms, cl, tm) (co, yn, yh, pa) ++ R) := hD
  refine lv_if_eq (tgt := 28) hx hb dX5_pair_9 (by decide) (fun c_1 => ?_) (fun c_1 => ?_)
  · skip
    have c_1 := zq_0 c_1
    exact absurd ⟨nI_pos (by omega), nI_ge h1 (by decide)⟩ c_1
  · skip
    have c_1 := zq_n c_1
    refine lv_iload_n hx hb dX5_pair_12 rfl (lv_at hl 2 rfl) ?_
    refine zci (zrS (As := [.int (nI b)]) (rest := []) ⟨hx, hb, hml, hown, hts⟩ (zS hP hD hK hE hB hS) (c_X5_isKey  ) (va_cwS 1 hts gX5_pair_X5_isKey rfl rfl rfl hds_X5_isKey ⟨Nat.le_of_ble_eq_true rfl, Nat.le_of_ble_eq_true rfl⟩) rfl rfl hl.1 rfl (lv_room (Nat.le_of_ble_eq_true rfl)) dX5_pair_13 ⟨Nat.le_of_ble_eq_true rfl, Nat.le_of_ble_eq_true rfl⟩) hS (fun H locs hP hD hS => ?_)
    have hP : va_P D vwCl (zWM cI cJ cZ h 0 (n, L) ((zcb kt pt), (zcb km pm), (zcb kl pl)) mc (run, wc, nu, lc, le, af, tr, ms, cl, tm) (co, yn, yh, pa) ++ R) _ := hP
    have hD : va_D (zAb B) (zWM cI cJ cZ h 0 (n, L) ((zcb kt pt), (zcb km pm), (zcb kl pl)) mc (run, wc, nu, lc, le, af, tr, ms, cl, tm) (co, yn, yh, pa) ++ R) := hD
    refine lv_if_eq (tgt := 28) hx hb dX5_pair_16 (by decide) (fun c_2 => ?_) (fun c_2 => ?_)
    · skip
      have c_2 := zq_0 c_2
      exact absurd ⟨nI_pos (by omega), nI_ge h2 (by decide)⟩ c_2
    · skip
      have c_2 := zq_n c_2
      refine lv_iload_n hx hb dX5_pair_19 rfl (lv_at hl 3 rfl) ?_
      refine lv_if_lt (tgt := 28) hx hb dX5_pair_20 (by decide) (fun c_3 => ?_) (fun c_3 => ?_)
      · skip
        exfalso; first | omega | (revert c_3; decide) | (exact absurd rfl c_3) | simp_all
      · skip
        refine lv_iload_n hx hb dX5_pair_23 rfl (lv_at hl 3 rfl) ?_
        refine lv_iconst (v := 3) hx hb dX5_pair_24 (by decide) ?_
        refine lv_icmp_le (tgt := 34) hx hb dX5_pair_25 (by decide) (fun c_4 => ?_) (fun c_4 => ?_)
        · skip
          refine lv_iload_n hx hb dX5_pair_34 rfl (lv_at hl 3 rfl) ?_
          refine lv_iconst (v := 3) hx hb dX5_pair_35 (by decide) ?_
          refine lv_icmp_ne (tgt := 48) hx hb dX5_pair_36 (by decide) (fun c_5 => ?_) (fun c_5 => ?_)
          · skip
            refine lv_aload_n hx hb dX5_pair_48 rfl (lv_at hl 0 rfl) ?_
            refine lv_iload_n hx hb dX5_pair_49 rfl (lv_at hl 1 rfl) ?_
            refine lv_iload_n hx hb dX5_pair_50 rfl (lv_at hl 2 rfl) ?_
            refine zci (zrS (As := [.int (nI a), .int (nI b)]) (rest := [.ref (h 0)]) ⟨hx, hb, hml, hown, hts⟩ (zS hP hD hK hE hB hS) (c_X5_pairOf (a := a) (b := b) ) (va_cwS 2 hts gX5_pair_X5_pairOf rfl rfl rfl hds_X5_pairOf ⟨Nat.le_of_ble_eq_true rfl, Nat.le_of_ble_eq_true rfl⟩) rfl rfl hl.1 rfl (lv_room (Nat.le_of_ble_eq_true rfl)) dX5_pair_51 ⟨Nat.le_of_ble_eq_true rfl, Nat.le_of_ble_eq_true rfl⟩) hS (fun H locs hP hD hS => ?_)
            have hP : va_P D vwCl (zWM cI cJ cZ h 0 (n, L) ((zcb kt pt), (zcb km pm), (zcb kl pl)) mc (run, wc, nu, lc, le, af, tr, ms, cl, tm) (co, yn, yh, pa) ++ R) _ := hP
            have hD : va_D (zAb B) (zWM cI cJ cZ h 0 (n, L) ((zcb kt pt), (zcb km pm), (zcb kl pl)) mc (run, wc, nu, lc, le, af, tr, ms, cl, tm) (co, yn, yh, pa) ++ R) := hD
            refine lv_iload_n hx hb dX5_pair_54 rfl (lv_at hl 3 rfl) ?_
            refine zci (zrV (As := [.int (nI (26 + (26 * a + b))), .int 1]) (rest := []) ⟨hx, hb, hml, hown, hts⟩ (zV 0 hP hD hK hE hB hS rfl rfl) (c_X5_known_p1 (k := (26 * a + b)) (by omega)) (cwV 2 hts gX5_pair_X5_known rfl rfl rfl hdv_X5_known ⟨Nat.le_of_ble_eq_true rfl, Nat.le_of_ble_eq_true rfl⟩) rfl rfl hl.1 rfl (lv_room (Nat.le_of_ble_eq_true rfl)) dX5_pair_55 ⟨Nat.le_of_ble_eq_true rfl, Nat.le_of_ble_eq_true rfl⟩) hS (fun H locs hP hD hS => ?_)
            have hP : va_P D vwCl (zWM cI cJ cZ h 0 (n, L) ((zcb kt pt), (zcb km pm), (zcb kl pl)) mc (run, wc, nu, lc, le, af, tr, ms, cl, tm) (co, yn, yh, pa) ++ R) _ := hP
            have hD : va_D (zAb B) (zWM cI cJ cZ h 0 (n, L) ((zcb kt pt), (zcb km pm), (zcb kl pl)) mc (run, wc, nu, lc, le, af, tr, ms, cl, tm) (co, yn, yh, pa) ++ R) := hD
            exact W.iret (v := (pm (26 * a + b))) hx hb hr (fun t ht hW => ⟨⟨_, (), rfl, rfl, by rw [ht]; exact hP, hD⟩, hS.F ht⟩) hS.2.2 dX5_pair_58
          · skip
            exfalso; first | omega | (revert c_5; decide) | (exact absurd rfl c_5) | simp_all
        · skip
          exfalso; first | omega | (revert c_4; decide) | (exact absurd rfl c_4) | simp_all

set_option maxHeartbeats 1000000 in
set_option maxRecDepth 100000 in
theorem c_X5_pair_2 {l : Launch} {B kr kp : Nat} {D : va_G} {cI cJ cZ : ClassId} {h : Nat → Nat} {R : va_W} {th : Int32} {n : Nat} {L : Nat → Int64} {kt : Nat → Int32} {km : Nat → Int32} {kl : Nat → Int32} {pt : Nat → Int32} {pm : Nat → Int32} {pl : Nat → Int32} {nu : Nat → Int32} {le : Nat → Int32} {af : Nat → Int32} {run : Bool} {wc : Nat} {lc : Nat} {tr : Nat} {cl : Nat} {tm : Nat} {ms : Nat} {co : Nat} {yn : Nat} {yh : Nat → Int32} {pa : Int32} {mc : Nat → Int32} {a : Nat} {b : Nat}   (h1 : a < 26) (h2 : b < 26) : Met l yX5_pair wsX5_pair ({ frames := 1, cells := 0, slots := 0, locals := 22 }) (zPc B kr kp D (zTy cI cJ cZ) (zWM cI cJ cZ h th (n, L) ((zcb kt pt), (zcb km pm), (zcb kl pl)) mc (run, wc, nu, lc, le, af, tr, ms, cl, tm) (co, yn, yh, pa) ++ R) [.ref (h 0), .int (nI a), .int (nI b), .int 2]) (zQi B D (zWM cI cJ cZ h 0 (n, L) ((zcb kt pt), (zcb km pm), (zcb kl pl)) mc (run, wc, nu, lc, le, af, tr, ms, cl, tm) (co, yn, yh, pa) ++ R) (pl (26 * a + b))) 0 0 (zAb B) := by
  refine Met.ofW (cc := cX5_pair) (maxL := 4) (ret := (some .int)) (by decide) rfl ?_
  intro p e s m args below meth c s₁ B0 hml hv
  obtain ⟨rfl, hP, hD, hK, hE, hB⟩ := hv
  have hx := B0.exec
  have hb := B0.bytes
  have hr := B0.returns
  have hts := atoms_spec (ws := wsX5_pair) B0.pre
  have hown : s.vm.findClass RX5 = some m.cls := findClass_of_methodNamed B0.named
  have hlocks := B0.notSynchronized
  have hA : ∀ q : Nat, s.heap.size ≤ q → zAb B q := fun q hq => Nat.le_trans hB hq
  have hS : va_S (zAb B) s.heap s.heap [] := va_S.rf
  have hl := lv_entry ([.ref (h 0), .int (nI a), .int (nI b), .int 2]) (n := 4) (Nat.le_of_ble_eq_true rfl)
  rw [lg_entry_eq]
  generalize (lg_sl ([.ref (h 0), .int (nI a), .int (nI b), .int 2]) ++ List.replicate (4 - (lg_sl ([.ref (h 0), .int (nI a), .int (nI b), .int 2])).length) Slot.unset).toArray = ls at hl ⊢
  have hl : lv_has ls 4 [(0, .ref (h 0)), (1, .int (nI a)), (2, .int (nI b)), (3, .int 2)] := hl
  have hinX5 : ∀ w ∈ wsX50, w ∈ wsX5_pair := fun _ h => List.mem_cons_of_mem _ (List.mem_append_right _ h)
  have hP : va_P D vwCl (zWM cI cJ cZ h th (n, L) ((zcb kt pt), (zcb km pm), (zcb kl pl)) mc (run, wc, nu, lc, le, af, tr, ms, cl, tm) (co, yn, yh, pa) ++ R) s.heap := hP
  have hD : va_D (zAb B) (zWM cI cJ cZ h th (n, L) ((zcb kt pt), (zcb km pm), (zcb kl pl)) mc (run, wc, nu, lc, le, af, tr, ms, cl, tm) (co, yn, yh, pa) ++ R) := hD
  refine lv_aload_n hx hb dX5_pair_0 rfl (lv_at hl 0 rfl) ?_
  refine lv_iconst (v := 0) hx hb dX5_pair_1 (by decide) ?_
  refine va_put (ci := 5) (v := .int 0) (ty := .int) (C := RX5) (T := TX5) (N := 20) hx hb hts hinX5 tyX5 tyX5_ok nmX5 hown hK hP hD hS 0 rfl rfl 0 (by decide) (hts (.fieldLink RX5 43 "TypingTutorModel" "thrown" "I") (List.mem_of_getElem? (i := 1) rfl)) (fun _ h9 => h9) rfl (by decide +kernel) rfl rfl (Nat.le_of_ble_eq_true rfl) dX5_pair_2 (fun H locs hP hD hS => ?_)
  have hP : va_P D vwCl (zWM cI cJ cZ h 0 (n, L) ((zcb kt pt), (zcb km pm), (zcb kl pl)) mc (run, wc, nu, lc, le, af, tr, ms, cl, tm) (co, yn, yh, pa) ++ R) _ := hP
  have hD : va_D (zAb B) (zWM cI cJ cZ h 0 (n, L) ((zcb kt pt), (zcb km pm), (zcb kl pl)) mc (run, wc, nu, lc, le, af, tr, ms, cl, tm) (co, yn, yh, pa) ++ R) := hD
  refine lv_iload_n hx hb dX5_pair_5 rfl (lv_at hl 1 rfl) ?_
  refine zci (zrS (As := [.int (nI a)]) (rest := []) ⟨hx, hb, hml, hown, hts⟩ (zS hP hD hK hE hB hS) (c_X5_isKey  ) (va_cwS 1 hts gX5_pair_X5_isKey rfl rfl rfl hds_X5_isKey ⟨Nat.le_of_ble_eq_true rfl, Nat.le_of_ble_eq_true rfl⟩) rfl rfl hl.1 rfl (lv_room (Nat.le_of_ble_eq_true rfl)) dX5_pair_6 ⟨Nat.le_of_ble_eq_true rfl, Nat.le_of_ble_eq_true rfl⟩) hS (fun H locs hP hD hS => ?_)
  have hP : va_P D vwCl (zWM cI cJ cZ h 0 (n, L) ((zcb kt pt), (zcb km pm), (zcb kl pl)) mc (run, wc, nu, lc, le, af, tr, ms, cl, tm) (co, yn, yh, pa) ++ R) _ := hP
  have hD : va_D (zAb B) (zWM cI cJ cZ h 0 (n, L) ((zcb kt pt), (zcb km pm), (zcb kl pl)) mc (run, wc, nu, lc, le, af, tr, ms, cl, tm) (co, yn, yh, pa) ++ R) := hD
  refine lv_if_eq (tgt := 28) hx hb dX5_pair_9 (by decide) (fun c_1 => ?_) (fun c_1 => ?_)
  · skip
    have c_1 := zq_0 c_1
    exact absurd ⟨nI_pos (by omega), nI_ge h1 (by decide)⟩ c_1
  · skip
    have c_1 := zq_n c_1
    refine lv_iload_n hx hb dX5_pair_12 rfl (lv_at hl 2 rfl) ?_
    refine zci (zrS (As := [.int (nI b)]) (rest := []) ⟨hx, hb, hml, hown, hts⟩ (zS hP hD hK hE hB hS) (c_X5_isKey  ) (va_cwS 1 hts gX5_pair_X5_isKey rfl rfl rfl hds_X5_isKey ⟨Nat.le_of_ble_eq_true rfl, Nat.le_of_ble_eq_true rfl⟩) rfl rfl hl.1 rfl (lv_room (Nat.le_of_ble_eq_true rfl)) dX5_pair_13 ⟨Nat.le_of_ble_eq_true rfl, Nat.le_of_ble_eq_true rfl⟩) hS (fun H locs hP hD hS => ?_)
    have hP : va_P D vwCl (zWM cI cJ cZ h 0 (n, L) ((zcb kt pt), (zcb km pm), (zcb kl pl)) mc (run, wc, nu, lc, le, af, tr, ms, cl, tm) (co, yn, yh, pa) ++ R) _ := hP
    have hD : va_D (zAb B) (zWM cI cJ cZ h 0 (n, L) ((zcb kt pt), (zcb km pm), (zcb kl pl)) mc (run, wc, nu, lc, le, af, tr, ms, cl, tm) (co, yn, yh, pa) ++ R) := hD
    refine lv_if_eq (tgt := 28) hx hb dX5_pair_16 (by decide) (fun c_2 => ?_) (fun c_2 => ?_)
    · skip
      have c_2 := zq_0 c_2
      exact absurd ⟨nI_pos (by omega), nI_ge h2 (by decide)⟩ c_2
    · skip
      have c_2 := zq_n c_2
      refine lv_iload_n hx hb dX5_pair_19 rfl (lv_at hl 3 rfl) ?_
      refine lv_if_lt (tgt := 28) hx hb dX5_pair_20 (by decide) (fun c_3 => ?_) (fun c_3 => ?_)
      · skip
        exfalso; first | omega | (revert c_3; decide) | (exact absurd rfl c_3) | simp_all
      · skip
        refine lv_iload_n hx hb dX5_pair_23 rfl (lv_at hl 3 rfl) ?_
        refine lv_iconst (v := 3) hx hb dX5_pair_24 (by decide) ?_
        refine lv_icmp_le (tgt := 34) hx hb dX5_pair_25 (by decide) (fun c_4 => ?_) (fun c_4 => ?_)
        · skip
          refine lv_iload_n hx hb dX5_pair_34 rfl (lv_at hl 3 rfl) ?_
          refine lv_iconst (v := 3) hx hb dX5_pair_35 (by decide) ?_
          refine lv_icmp_ne (tgt := 48) hx hb dX5_pair_36 (by decide) (fun c_5 => ?_) (fun c_5 => ?_)
          · skip
            refine lv_aload_n hx hb dX5_pair_48 rfl (lv_at hl 0 rfl) ?_
            refine lv_iload_n hx hb dX5_pair_49 rfl (lv_at hl 1 rfl) ?_
            refine lv_iload_n hx hb dX5_pair_50 rfl (lv_at hl 2 rfl) ?_
            refine zci (zrS (As := [.int (nI a), .int (nI b)]) (rest := [.ref (h 0)]) ⟨hx, hb, hml, hown, hts⟩ (zS hP hD hK hE hB hS) (c_X5_pairOf (a := a) (b := b) ) (va_cwS 2 hts gX5_pair_X5_pairOf rfl rfl rfl hds_X5_pairOf ⟨Nat.le_of_ble_eq_true rfl, Nat.le_of_ble_eq_true rfl⟩) rfl rfl hl.1 rfl (lv_room (Nat.le_of_ble_eq_true rfl)) dX5_pair_51 ⟨Nat.le_of_ble_eq_true rfl, Nat.le_of_ble_eq_true rfl⟩) hS (fun H locs hP hD hS => ?_)
            have hP : va_P D vwCl (zWM cI cJ cZ h 0 (n, L) ((zcb kt pt), (zcb km pm), (zcb kl pl)) mc (run, wc, nu, lc, le, af, tr, ms, cl, tm) (co, yn, yh, pa) ++ R) _ := hP
            have hD : va_D (zAb B) (zWM cI cJ cZ h 0 (n, L) ((zcb kt pt), (zcb km pm), (zcb kl pl)) mc (run, wc, nu, lc, le, af, tr, ms, cl, tm) (co, yn, yh, pa) ++ R) := hD
            refine lv_iload_n hx hb dX5_pair_54 rfl (lv_at hl 3 rfl) ?_
            refine zci (zrV (As := [.int (nI (26 + (26 * a + b))), .int 2]) (rest := []) ⟨hx, hb, hml, hown, hts⟩ (zV 0 hP hD hK hE hB hS rfl rfl) (c_X5_known_p2 (k := (26 * a + b)) (by omega)) (cwV 2 hts gX5_pair_X5_known rfl rfl rfl hdv_X5_known ⟨Nat.le_of_ble_eq_true rfl, Nat.le_of_ble_eq_true rfl⟩) rfl rfl hl.1 rfl (lv_room (Nat.le_of_ble_eq_true rfl)) dX5_pair_55 ⟨Nat.le_of_ble_eq_true rfl, Nat.le_of_ble_eq_true rfl⟩) hS (fun H locs hP hD hS => ?_)
            have hP : va_P D vwCl (zWM cI cJ cZ h 0 (n, L) ((zcb kt pt), (zcb km pm), (zcb kl pl)) mc (run, wc, nu, lc, le, af, tr, ms, cl, tm) (co, yn, yh, pa) ++ R) _ := hP
            have hD : va_D (zAb B) (zWM cI cJ cZ h 0 (n, L) ((zcb kt pt), (zcb km pm), (zcb kl pl)) mc (run, wc, nu, lc, le, af, tr, ms, cl, tm) (co, yn, yh, pa) ++ R) := hD
            exact W.iret (v := (pl (26 * a + b))) hx hb hr (fun t ht hW => ⟨⟨_, (), rfl, rfl, by rw [ht]; exact hP, hD⟩, hS.F ht⟩) hS.2.2 dX5_pair_58
          · skip
            exfalso; first | omega | (revert c_5; decide) | (exact absurd rfl c_5) | simp_all
        · skip
          exfalso; first | omega | (revert c_4; decide) | (exact absurd rfl c_4) | simp_all

set_option maxHeartbeats 1000000 in
set_option maxRecDepth 100000 in
theorem c_X5_pair_3 {l : Launch} {B kr kp : Nat} {D : va_G} {cI cJ cZ : ClassId} {h : Nat → Nat} {R : va_W} {th : Int32} {n : Nat} {L : Nat → Int64} {kt : Nat → Int32} {km : Nat → Int32} {kl : Nat → Int32} {pt : Nat → Int32} {pm : Nat → Int32} {pl : Nat → Int32} {nu : Nat → Int32} {le : Nat → Int32} {af : Nat → Int32} {run : Bool} {wc : Nat} {lc : Nat} {tr : Nat} {cl : Nat} {tm : Nat} {ms : Nat} {co : Nat} {yn : Nat} {yh : Nat → Int32} {pa : Int32} {mc : Nat → Int32} {a : Nat} {b : Nat}   (h1 : a < 26) (h2 : b < 26) : Met l yX5_pair wsX5_pair ({ frames := 2, cells := 0, slots := 0, locals := 44 }) (zPc B kr kp D (zTy cI cJ cZ) (zWM cI cJ cZ h th (n, L) ((zcb kt pt), (zcb km pm), (zcb kl pl)) mc (run, wc, nu, lc, le, af, tr, ms, cl, tm) (co, yn, yh, pa) ++ R) [.ref (h 0), .int (nI a), .int (nI b), .int 3]) (zQi B D (zWM cI cJ cZ h 0 (n, L) ((zcb kt pt), (zcb km pm), (zcb kl pl)) mc (run, wc, nu, lc, le, af, tr, ms, cl, tm) (co, yn, yh, pa) ++ R) (zwk pt pl (nI (26 * a + b)))) 0 0 (zAb B) := by
  refine Met.ofW (cc := cX5_pair) (maxL := 4) (ret := (some .int)) (by decide) rfl ?_
  intro p e s m args below meth c s₁ B0 hml hv
  obtain ⟨rfl, hP, hD, hK, hE, hB⟩ := hv
  have hx := B0.exec
  have hb := B0.bytes
  have hr := B0.returns
  have hts := atoms_spec (ws := wsX5_pair) B0.pre
  have hown : s.vm.findClass RX5 = some m.cls := findClass_of_methodNamed B0.named
  have hlocks := B0.notSynchronized
  have hA : ∀ q : Nat, s.heap.size ≤ q → zAb B q := fun q hq => Nat.le_trans hB hq
  have hS : va_S (zAb B) s.heap s.heap [] := va_S.rf
  have hl := lv_entry ([.ref (h 0), .int (nI a), .int (nI b), .int 3]) (n := 4) (Nat.le_of_ble_eq_true rfl)
  rw [lg_entry_eq]
  generalize (lg_sl ([.ref (h 0), .int (nI a), .int (nI b), .int 3]) ++ List.replicate (4 - (lg_sl ([.ref (h 0), .int (nI a), .int (nI b), .int 3])).length) Slot.unset).toArray = ls at hl ⊢
  have hl : lv_has ls 4 [(0, .ref (h 0)), (1, .int (nI a)), (2, .int (nI b)), (3, .int 3)] := hl
  have hinX5 : ∀ w ∈ wsX50, w ∈ wsX5_pair := fun _ h => List.mem_cons_of_mem _ (List.mem_append_right _ h)
  have hP : va_P D vwCl (zWM cI cJ cZ h th (n, L) ((zcb kt pt), (zcb km pm), (zcb kl pl)) mc (run, wc, nu, lc, le, af, tr, ms, cl, tm) (co, yn, yh, pa) ++ R) s.heap := hP
  have hD : va_D (zAb B) (zWM cI cJ cZ h th (n, L) ((zcb kt pt), (zcb km pm), (zcb kl pl)) mc (run, wc, nu, lc, le, af, tr, ms, cl, tm) (co, yn, yh, pa) ++ R) := hD
  refine lv_aload_n hx hb dX5_pair_0 rfl (lv_at hl 0 rfl) ?_
  refine lv_iconst (v := 0) hx hb dX5_pair_1 (by decide) ?_
  refine va_put (ci := 5) (v := .int 0) (ty := .int) (C := RX5) (T := TX5) (N := 20) hx hb hts hinX5 tyX5 tyX5_ok nmX5 hown hK hP hD hS 0 rfl rfl 0 (by decide) (hts (.fieldLink RX5 43 "TypingTutorModel" "thrown" "I") (List.mem_of_getElem? (i := 1) rfl)) (fun _ h9 => h9) rfl (by decide +kernel) rfl rfl (Nat.le_of_ble_eq_true rfl) dX5_pair_2 (fun H locs hP hD hS => ?_)
  have hP : va_P D vwCl (zWM cI cJ cZ h 0 (n, L) ((zcb kt pt), (zcb km pm), (zcb kl pl)) mc (run, wc, nu, lc, le, af, tr, ms, cl, tm) (co, yn, yh, pa) ++ R) _ := hP
  have hD : va_D (zAb B) (zWM cI cJ cZ h 0 (n, L) ((zcb kt pt), (zcb km pm), (zcb kl pl)) mc (run, wc, nu, lc, le, af, tr, ms, cl, tm) (co, yn, yh, pa) ++ R) := hD
  refine lv_iload_n hx hb dX5_pair_5 rfl (lv_at hl 1 rfl) ?_
  refine zci (zrS (As := [.int (nI a)]) (rest := []) ⟨hx, hb, hml, hown, hts⟩ (zS hP hD hK hE hB hS) (c_X5_isKey  ) (va_cwS 1 hts gX5_pair_X5_isKey rfl rfl rfl hds_X5_isKey ⟨Nat.le_of_ble_eq_true rfl, Nat.le_of_ble_eq_true rfl⟩) rfl rfl hl.1 rfl (lv_room (Nat.le_of_ble_eq_true rfl)) dX5_pair_6 ⟨Nat.le_of_ble_eq_true rfl, Nat.le_of_ble_eq_true rfl⟩) hS (fun H locs hP hD hS => ?_)
  have hP : va_P D vwCl (zWM cI cJ cZ h 0 (n, L) ((zcb kt pt), (zcb km pm), (zcb kl pl)) mc (run, wc, nu, lc, le, af, tr, ms, cl, tm) (co, yn, yh, pa) ++ R) _ := hP
  have hD : va_D (zAb B) (zWM cI cJ cZ h 0 (n, L) ((zcb kt pt), (zcb km pm), (zcb kl pl)) mc (run, wc, nu, lc, le, af, tr, ms, cl, tm) (co, yn, yh, pa) ++ R) := hD
  refine lv_if_eq (tgt := 28) hx hb dX5_pair_9 (by decide) (fun c_1 => ?_) (fun c_1 => ?_)
  · skip
    have c_1 := zq_0 c_1
    exact absurd ⟨nI_pos (by omega), nI_ge h1 (by decide)⟩ c_1
  · skip
    have c_1 := zq_n c_1
    refine lv_iload_n hx hb dX5_pair_12 rfl (lv_at hl 2 rfl) ?_
    refine zci (zrS (As := [.int (nI b)]) (rest := []) ⟨hx, hb, hml, hown, hts⟩ (zS hP hD hK hE hB hS) (c_X5_isKey  ) (va_cwS 1 hts gX5_pair_X5_isKey rfl rfl rfl hds_X5_isKey ⟨Nat.le_of_ble_eq_true rfl, Nat.le_of_ble_eq_true rfl⟩) rfl rfl hl.1 rfl (lv_room (Nat.le_of_ble_eq_true rfl)) dX5_pair_13 ⟨Nat.le_of_ble_eq_true rfl, Nat.le_of_ble_eq_true rfl⟩) hS (fun H locs hP hD hS => ?_)
    have hP : va_P D vwCl (zWM cI cJ cZ h 0 (n, L) ((zcb kt pt), (zcb km pm), (zcb kl pl)) mc (run, wc, nu, lc, le, af, tr, ms, cl, tm) (co, yn, yh, pa) ++ R) _ := hP
    have hD : va_D (zAb B) (zWM cI cJ cZ h 0 (n, L) ((zcb kt pt), (zcb km pm), (zcb kl pl)) mc (run, wc, nu, lc, le, af, tr, ms, cl, tm) (co, yn, yh, pa) ++ R) := hD
    refine lv_if_eq (tgt := 28) hx hb dX5_pair_16 (by decide) (fun c_2 => ?_) (fun c_2 => ?_)
    · skip
      have c_2 := zq_0 c_2
      exact absurd ⟨nI_pos (by omega), nI_ge h2 (by decide)⟩ c_2
    · skip
      have c_2 := zq_n c_2
      refine lv_iload_n hx hb dX5_pair_19 rfl (lv_at hl 3 rfl) ?_
      refine lv_if_lt (tgt := 28) hx hb dX5_pair_20 (by decide) (fun c_3 => ?_) (fun c_3 => ?_)
      · skip
        exfalso; first | omega | (revert c_3; decide) | (exact absurd rfl c_3) | simp_all
      · skip
        refine lv_iload_n hx hb dX5_pair_23 rfl (lv_at hl 3 rfl) ?_
        refine lv_iconst (v := 3) hx hb dX5_pair_24 (by decide) ?_
        refine lv_icmp_le (tgt := 34) hx hb dX5_pair_25 (by decide) (fun c_4 => ?_) (fun c_4 => ?_)
        · skip
          refine lv_iload_n hx hb dX5_pair_34 rfl (lv_at hl 3 rfl) ?_
          refine lv_iconst (v := 3) hx hb dX5_pair_35 (by decide) ?_
          refine lv_icmp_ne (tgt := 48) hx hb dX5_pair_36 (by decide) (fun c_5 => ?_) (fun c_5 => ?_)
          · skip
            exfalso; first | omega | (revert c_5; decide) | (exact absurd rfl c_5) | simp_all
          · skip
            refine lv_aload_n hx hb dX5_pair_39 rfl (lv_at hl 0 rfl) ?_
            refine lv_iload_n hx hb dX5_pair_40 rfl (lv_at hl 1 rfl) ?_
            refine lv_iload_n hx hb dX5_pair_41 rfl (lv_at hl 2 rfl) ?_
            refine zci (zrV (As := [.int (nI a), .int (nI b)]) (rest := []) ⟨hx, hb, hml, hown, hts⟩ (zV 0 hP hD hK hE hB hS rfl rfl) (c_X5_weakness (a := a) (b := b) (by omega) (by omega)) (cwV 2 hts gX5_pair_X5_weakness rfl rfl rfl hdv_X5_weakness ⟨Nat.le_of_ble_eq_true rfl, Nat.le_of_ble_eq_true rfl⟩) rfl rfl hl.1 rfl (lv_room (Nat.le_of_ble_eq_true rfl)) dX5_pair_42 ⟨Nat.le_of_ble_eq_true rfl, Nat.le_of_ble_eq_true rfl⟩) hS (fun H locs hP hD hS => ?_)
            have hP : va_P D vwCl (zWM cI cJ cZ h 0 (n, L) ((zcb kt pt), (zcb km pm), (zcb kl pl)) mc (run, wc, nu, lc, le, af, tr, ms, cl, tm) (co, yn, yh, pa) ++ R) _ := hP
            have hD : va_D (zAb B) (zWM cI cJ cZ h 0 (n, L) ((zcb kt pt), (zcb km pm), (zcb kl pl)) mc (run, wc, nu, lc, le, af, tr, ms, cl, tm) (co, yn, yh, pa) ++ R) := hD
            refine lv_goto (tgt := 58) hx hb dX5_pair_45 (by decide) ?_
            exact W.iret (v := (zwk pt pl (nI (26 * a + b)))) hx hb hr (fun t ht hW => ⟨⟨_, (), rfl, rfl, by rw [ht]; exact hP, hD⟩, hS.F ht⟩) hS.2.2 dX5_pair_58
        · skip
          exfalso; first | omega | (revert c_4; decide) | (exact absurd rfl c_4) | simp_all

set_option maxHeartbeats 1000000 in
set_option maxRecDepth 100000 in
theorem c_X5_pair_x {l : Launch} {B kr kp : Nat} {D : va_G} {cI cJ cZ : ClassId} {h : Nat → Nat} {R : va_W} {th : Int32} {n : Nat} {L : Nat → Int64} {kt : Nat → Int32} {km : Nat → Int32} {kl : Nat → Int32} {pt : Nat → Int32} {pm : Nat → Int32} {pl : Nat → Int32} {nu : Nat → Int32} {le : Nat → Int32} {af : Nat → Int32} {run : Bool} {wc : Nat} {lc : Nat} {tr : Nat} {cl : Nat} {tm : Nat} {ms : Nat} {co : Nat} {yn : Nat} {yh : Nat → Int32} {pa : Int32} {mc : Nat → Int32} {a : Int32} {b : Int32} {i : Int32}   (h1 : ¬ ((¬ a < 0 ∧ ¬ 26 ≤ a) ∧ (¬ b < 0 ∧ ¬ 26 ≤ b) ∧ ¬ i < 0 ∧ i ≤ 3)) : Met l yX5_pair wsX5_pair ({ frames := 1, cells := 0, slots := 0, locals := 21 }) (zPc B kr kp D (zTy cI cJ cZ) (zWM cI cJ cZ h th (n, L) ((zcb kt pt), (zcb km pm), (zcb kl pl)) mc (run, wc, nu, lc, le, af, tr, ms, cl, tm) (co, yn, yh, pa) ++ R) [.ref (h 0), .int a, .int b, .int i]) (zQi B D (zWM cI cJ cZ h 1 (n, L) ((zcb kt pt), (zcb km pm), (zcb kl pl)) mc (run, wc, nu, lc, le, af, tr, ms, cl, tm) (co, yn, yh, pa) ++ R) 0) 0 0 (zAb B) := by
  refine Met.ofW (cc := cX5_pair) (maxL := 4) (ret := (some .int)) (by decide) rfl ?_
  intro p e s m args below meth c s₁ B0 hml hv
  obtain ⟨rfl, hP, hD, hK, hE, hB⟩ := hv
  have hx := B0.exec
  have hb := B0.bytes
  have hr := B0.returns
  have hts := atoms_spec (ws := wsX5_pair) B0.pre
  have hown : s.vm.findClass RX5 = some m.cls := findClass_of_methodNamed B0.named
  have hlocks := B0.notSynchronized
  have hA : ∀ q : Nat, s.heap.size ≤ q → zAb B q := fun q hq => Nat.le_trans hB hq
  have hS : va_S (zAb B) s.heap s.heap [] := va_S.rf
  have hl := lv_entry ([.ref (h 0), .int a, .int b, .int i]) (n := 4) (Nat.le_of_ble_eq_true rfl)
  rw [lg_entry_eq]
  generalize (lg_sl ([.ref (h 0), .int a, .int b, .int i]) ++ List.replicate (4 - (lg_sl ([.ref (h 0), .int a, .int b, .int i])).length) Slot.unset).toArray = ls at hl ⊢
  have hl : lv_has ls 4 [(0, .ref (h 0)), (1, .int a), (2, .int b), (3, .int i)] := hl
  have hinX5 : ∀ w ∈ wsX50, w ∈ wsX5_pair := fun _ h => List.mem_cons_of_mem _ (List.mem_append_right _ h)
  have hP : va_P D vwCl (zWM cI cJ cZ h th (n, L) ((zcb kt pt), (zcb km pm), (zcb kl pl)) mc (run, wc, nu, lc, le, af, tr, ms, cl, tm) (co, yn, yh, pa) ++ R) s.heap := hP
  have hD : va_D (zAb B) (zWM cI cJ cZ h th (n, L) ((zcb kt pt), (zcb km pm), (zcb kl pl)) mc (run, wc, nu, lc, le, af, tr, ms, cl, tm) (co, yn, yh, pa) ++ R) := hD
  refine lv_aload_n hx hb dX5_pair_0 rfl (lv_at hl 0 rfl) ?_
  refine lv_iconst (v := 0) hx hb dX5_pair_1 (by decide) ?_
  refine va_put (ci := 5) (v := .int 0) (ty := .int) (C := RX5) (T := TX5) (N := 20) hx hb hts hinX5 tyX5 tyX5_ok nmX5 hown hK hP hD hS 0 rfl rfl 0 (by decide) (hts (.fieldLink RX5 43 "TypingTutorModel" "thrown" "I") (List.mem_of_getElem? (i := 1) rfl)) (fun _ h9 => h9) rfl (by decide +kernel) rfl rfl (Nat.le_of_ble_eq_true rfl) dX5_pair_2 (fun H locs hP hD hS => ?_)
  have hP : va_P D vwCl (zWM cI cJ cZ h 0 (n, L) ((zcb kt pt), (zcb km pm), (zcb kl pl)) mc (run, wc, nu, lc, le, af, tr, ms, cl, tm) (co, yn, yh, pa) ++ R) _ := hP
  have hD : va_D (zAb B) (zWM cI cJ cZ h 0 (n, L) ((zcb kt pt), (zcb km pm), (zcb kl pl)) mc (run, wc, nu, lc, le, af, tr, ms, cl, tm) (co, yn, yh, pa) ++ R) := hD
  refine lv_iload_n hx hb dX5_pair_5 rfl (lv_at hl 1 rfl) ?_
  refine zci (zrS (As := [.int a]) (rest := []) ⟨hx, hb, hml, hown, hts⟩ (zS hP hD hK hE hB hS) (c_X5_isKey  ) (va_cwS 1 hts gX5_pair_X5_isKey rfl rfl rfl hds_X5_isKey ⟨Nat.le_of_ble_eq_true rfl, Nat.le_of_ble_eq_true rfl⟩) rfl rfl hl.1 rfl (lv_room (Nat.le_of_ble_eq_true rfl)) dX5_pair_6 ⟨Nat.le_of_ble_eq_true rfl, Nat.le_of_ble_eq_true rfl⟩) hS (fun H locs hP hD hS => ?_)
  have hP : va_P D vwCl (zWM cI cJ cZ h 0 (n, L) ((zcb kt pt), (zcb km pm), (zcb kl pl)) mc (run, wc, nu, lc, le, af, tr, ms, cl, tm) (co, yn, yh, pa) ++ R) _ := hP
  have hD : va_D (zAb B) (zWM cI cJ cZ h 0 (n, L) ((zcb kt pt), (zcb km pm), (zcb kl pl)) mc (run, wc, nu, lc, le, af, tr, ms, cl, tm) (co, yn, yh, pa) ++ R) := hD
  refine lv_if_eq (tgt := 28) hx hb dX5_pair_9 (by decide) (fun c_1 => ?_) (fun c_1 => ?_)
  · skip
    have c_1 := zq_0 c_1
    refine lv_aload_n hx hb dX5_pair_28 rfl (lv_at hl 0 rfl) ?_
    refine lv_iconst (v := 1) hx hb dX5_pair_29 (by decide) ?_
    refine zci (zrV (As := [.int 1]) (rest := []) ⟨hx, hb, hml, hown, hts⟩ (zV 0 hP hD hK hE hB hS rfl rfl) (c_X5_fail  ) (cwV 1 hts gX5_pair_X5_fail rfl rfl rfl hdv_X5_fail ⟨Nat.le_of_ble_eq_true rfl, Nat.le_of_ble_eq_true rfl⟩) rfl rfl hl.1 rfl (lv_room (Nat.le_of_ble_eq_true rfl)) dX5_pair_30 ⟨Nat.le_of_ble_eq_true rfl, Nat.le_of_ble_eq_true rfl⟩) hS (fun H locs hP hD hS => ?_)
    have hP : va_P D vwCl (zWM cI cJ cZ h 1 (n, L) ((zcb kt pt), (zcb km pm), (zcb kl pl)) mc (run, wc, nu, lc, le, af, tr, ms, cl, tm) (co, yn, yh, pa) ++ R) _ := hP
    have hD : va_D (zAb B) (zWM cI cJ cZ h 1 (n, L) ((zcb kt pt), (zcb km pm), (zcb kl pl)) mc (run, wc, nu, lc, le, af, tr, ms, cl, tm) (co, yn, yh, pa) ++ R) := hD
    exact W.iret (v := 0) hx hb hr (fun t ht hW => ⟨⟨_, (), rfl, rfl, by rw [ht]; exact hP, hD⟩, hS.F ht⟩) hS.2.2 dX5_pair_33
  · skip
    have c_1 := zq_n c_1
    refine lv_iload_n hx hb dX5_pair_12 rfl (lv_at hl 2 rfl) ?_
    refine zci (zrS (As := [.int b]) (rest := []) ⟨hx, hb, hml, hown, hts⟩ (zS hP hD hK hE hB hS) (c_X5_isKey  ) (va_cwS 1 hts gX5_pair_X5_isKey rfl rfl rfl hds_X5_isKey ⟨Nat.le_of_ble_eq_true rfl, Nat.le_of_ble_eq_true rfl⟩) rfl rfl hl.1 rfl (lv_room (Nat.le_of_ble_eq_true rfl)) dX5_pair_13 ⟨Nat.le_of_ble_eq_true rfl, Nat.le_of_ble_eq_true rfl⟩) hS (fun H locs hP hD hS => ?_)
    have hP : va_P D vwCl (zWM cI cJ cZ h 0 (n, L) ((zcb kt pt), (zcb km pm), (zcb kl pl)) mc (run, wc, nu, lc, le, af, tr, ms, cl, tm) (co, yn, yh, pa) ++ R) _ := hP
    have hD : va_D (zAb B) (zWM cI cJ cZ h 0 (n, L) ((zcb kt pt), (zcb km pm), (zcb kl pl)) mc (run, wc, nu, lc, le, af, tr, ms, cl, tm) (co, yn, yh, pa) ++ R) := hD
    refine lv_if_eq (tgt := 28) hx hb dX5_pair_16 (by decide) (fun c_2 => ?_) (fun c_2 => ?_)
    · skip
      have c_2 := zq_0 c_2
      refine lv_aload_n hx hb dX5_pair_28 rfl (lv_at hl 0 rfl) ?_
      refine lv_iconst (v := 1) hx hb dX5_pair_29 (by decide) ?_
      refine zci (zrV (As := [.int 1]) (rest := []) ⟨hx, hb, hml, hown, hts⟩ (zV 0 hP hD hK hE hB hS rfl rfl) (c_X5_fail  ) (cwV 1 hts gX5_pair_X5_fail rfl rfl rfl hdv_X5_fail ⟨Nat.le_of_ble_eq_true rfl, Nat.le_of_ble_eq_true rfl⟩) rfl rfl hl.1 rfl (lv_room (Nat.le_of_ble_eq_true rfl)) dX5_pair_30 ⟨Nat.le_of_ble_eq_true rfl, Nat.le_of_ble_eq_true rfl⟩) hS (fun H locs hP hD hS => ?_)
      have hP : va_P D vwCl (zWM cI cJ cZ h 1 (n, L) ((zcb kt pt), (zcb km pm), (zcb kl pl)) mc (run, wc, nu, lc, le, af, tr, ms, cl, tm) (co, yn, yh, pa) ++ R) _ := hP
      have hD : va_D (zAb B) (zWM cI cJ cZ h 1 (n, L) ((zcb kt pt), (zcb km pm), (zcb kl pl)) mc (run, wc, nu, lc, le, af, tr, ms, cl, tm) (co, yn, yh, pa) ++ R) := hD
      exact W.iret (v := 0) hx hb hr (fun t ht hW => ⟨⟨_, (), rfl, rfl, by rw [ht]; exact hP, hD⟩, hS.F ht⟩) hS.2.2 dX5_pair_33
    · skip
      have c_2 := zq_n c_2
      refine lv_iload_n hx hb dX5_pair_19 rfl (lv_at hl 3 rfl) ?_
      refine lv_if_lt (tgt := 28) hx hb dX5_pair_20 (by decide) (fun c_3 => ?_) (fun c_3 => ?_)
      · skip
        refine lv_aload_n hx hb dX5_pair_28 rfl (lv_at hl 0 rfl) ?_
        refine lv_iconst (v := 1) hx hb dX5_pair_29 (by decide) ?_
        refine zci (zrV (As := [.int 1]) (rest := []) ⟨hx, hb, hml, hown, hts⟩ (zV 0 hP hD hK hE hB hS rfl rfl) (c_X5_fail  ) (cwV 1 hts gX5_pair_X5_fail rfl rfl rfl hdv_X5_fail ⟨Nat.le_of_ble_eq_true rfl, Nat.le_of_ble_eq_true rfl⟩) rfl rfl hl.1 rfl (lv_room (Nat.le_of_ble_eq_true rfl)) dX5_pair_30 ⟨Nat.le_of_ble_eq_true rfl, Nat.le_of_ble_eq_true rfl⟩) hS (fun H locs hP hD hS => ?_)
        have hP : va_P D vwCl (zWM cI cJ cZ h 1 (n, L) ((zcb kt pt), (zcb km pm), (zcb kl pl)) mc (run, wc, nu, lc, le, af, tr, ms, cl, tm) (co, yn, yh, pa) ++ R) _ := hP
        have hD : va_D (zAb B) (zWM cI cJ cZ h 1 (n, L) ((zcb kt pt), (zcb km pm), (zcb kl pl)) mc (run, wc, nu, lc, le, af, tr, ms, cl, tm) (co, yn, yh, pa) ++ R) := hD
        exact W.iret (v := 0) hx hb hr (fun t ht hW => ⟨⟨_, (), rfl, rfl, by rw [ht]; exact hP, hD⟩, hS.F ht⟩) hS.2.2 dX5_pair_33
      · skip
        refine lv_iload_n hx hb dX5_pair_23 rfl (lv_at hl 3 rfl) ?_
        refine lv_iconst (v := 3) hx hb dX5_pair_24 (by decide) ?_
        refine lv_icmp_le (tgt := 34) hx hb dX5_pair_25 (by decide) (fun c_4 => ?_) (fun c_4 => ?_)
        · skip
          exact absurd ⟨c_1, c_2, c_3, c_4⟩ h1
        · skip
          refine lv_aload_n hx hb dX5_pair_28 rfl (lv_at hl 0 rfl) ?_
          refine lv_iconst (v := 1) hx hb dX5_pair_29 (by decide) ?_
          refine zci (zrV (As := [.int 1]) (rest := []) ⟨hx, hb, hml, hown, hts⟩ (zV 0 hP hD hK hE hB hS rfl rfl) (c_X5_fail  ) (cwV 1 hts gX5_pair_X5_fail rfl rfl rfl hdv_X5_fail ⟨Nat.le_of_ble_eq_true rfl, Nat.le_of_ble_eq_true rfl⟩) rfl rfl hl.1 rfl (lv_room (Nat.le_of_ble_eq_true rfl)) dX5_pair_30 ⟨Nat.le_of_ble_eq_true rfl, Nat.le_of_ble_eq_true rfl⟩) hS (fun H locs hP hD hS => ?_)
          have hP : va_P D vwCl (zWM cI cJ cZ h 1 (n, L) ((zcb kt pt), (zcb km pm), (zcb kl pl)) mc (run, wc, nu, lc, le, af, tr, ms, cl, tm) (co, yn, yh, pa) ++ R) _ := hP
          have hD : va_D (zAb B) (zWM cI cJ cZ h 1 (n, L) ((zcb kt pt), (zcb km pm), (zcb kl pl)) mc (run, wc, nu, lc, le, af, tr, ms, cl, tm) (co, yn, yh, pa) ++ R) := hD
          exact W.iret (v := 0) hx hb hr (fun t ht hW => ⟨⟨_, (), rfl, rfl, by rw [ht]; exact hP, hD⟩, hS.F ht⟩) hS.2.2 dX5_pair_33

set_option maxHeartbeats 1000000 in
set_option maxRecDepth 100000 in
theorem c_X5_mistakes {l : Launch} {B kr kp : Nat} {D : va_G} {cI cJ cZ : ClassId} {h : Nat → Nat} {R : va_W} {th : Int32} {n : Nat} {L : Nat → Int64} {kt : Nat → Int32} {km : Nat → Int32} {kl : Nat → Int32} {pt : Nat → Int32} {pm : Nat → Int32} {pl : Nat → Int32} {nu : Nat → Int32} {le : Nat → Int32} {af : Nat → Int32} {run : Bool} {wc : Nat} {lc : Nat} {tr : Nat} {cl : Nat} {tm : Nat} {ms : Nat} {co : Nat} {yn : Nat} {yh : Nat → Int32} {pa : Int32} {mc : Nat → Int32} {k : Nat}   (h1 : 1 ≤ k) (h4 : k ≤ 4) : Met l yX5_mistakes wsX5_mistakes ({ frames := 0, cells := 0, slots := 0, locals := 0 }) (zPc B kr kp D (zTy cI cJ cZ) (zWM cI cJ cZ h th (n, L) ((zcb kt pt), (zcb km pm), (zcb kl pl)) mc (run, wc, nu, lc, le, af, tr, ms, cl, tm) (co, yn, yh, pa) ++ R) [.ref (h 0), .int (nI k)]) (zQi B D (zWM cI cJ cZ h 0 (n, L) ((zcb kt pt), (zcb km pm), (zcb kl pl)) mc (run, wc, nu, lc, le, af, tr, ms, cl, tm) (co, yn, yh, pa) ++ R) (mc k)) 0 0 (zAb B) := by
  refine Met.ofW (cc := cX5_mistakes) (maxL := 2) (ret := (some .int)) (by decide) rfl ?_
  intro p e s m args below meth c s₁ B0 hml hv
  obtain ⟨rfl, hP, hD, hK, hE, hB⟩ := hv
  have hx := B0.exec
  have hb := B0.bytes
  have hr := B0.returns
  have hts := atoms_spec (ws := wsX5_mistakes) B0.pre
  have hown : s.vm.findClass RX5 = some m.cls := findClass_of_methodNamed B0.named
  have hlocks := B0.notSynchronized
  have hA : ∀ q : Nat, s.heap.size ≤ q → zAb B q := fun q hq => Nat.le_trans hB hq
  have hS : va_S (zAb B) s.heap s.heap [] := va_S.rf
  have hl := lv_entry ([.ref (h 0), .int (nI k)]) (n := 2) (Nat.le_of_ble_eq_true rfl)
  rw [lg_entry_eq]
  generalize (lg_sl ([.ref (h 0), .int (nI k)]) ++ List.replicate (2 - (lg_sl ([.ref (h 0), .int (nI k)])).length) Slot.unset).toArray = ls at hl ⊢
  have hl : lv_has ls 2 [(0, .ref (h 0)), (1, .int (nI k))] := hl
  have hinX5 : ∀ w ∈ wsX50, w ∈ wsX5_mistakes := fun _ h => List.mem_cons_of_mem _ (List.mem_append_right _ h)
  have hP : va_P D vwCl (zWM cI cJ cZ h th (n, L) ((zcb kt pt), (zcb km pm), (zcb kl pl)) mc (run, wc, nu, lc, le, af, tr, ms, cl, tm) (co, yn, yh, pa) ++ R) s.heap := hP
  have hD : va_D (zAb B) (zWM cI cJ cZ h th (n, L) ((zcb kt pt), (zcb km pm), (zcb kl pl)) mc (run, wc, nu, lc, le, af, tr, ms, cl, tm) (co, yn, yh, pa) ++ R) := hD
  refine lv_aload_n hx hb dX5_mistakes_0 rfl (lv_at hl 0 rfl) ?_
  refine lv_iconst (v := 0) hx hb dX5_mistakes_1 (by decide) ?_
  refine va_put (ci := 5) (v := .int 0) (ty := .int) (C := RX5) (T := TX5) (N := 20) hx hb hts hinX5 tyX5 tyX5_ok nmX5 hown hK hP hD hS 0 rfl rfl 0 (by decide) (hts (.fieldLink RX5 43 "TypingTutorModel" "thrown" "I") (List.mem_of_getElem? (i := 1) rfl)) (fun _ h9 => h9) rfl (by decide +kernel) rfl rfl (Nat.le_of_ble_eq_true rfl) dX5_mistakes_2 (fun H locs hP hD hS => ?_)
  have hP : va_P D vwCl (zWM cI cJ cZ h 0 (n, L) ((zcb kt pt), (zcb km pm), (zcb kl pl)) mc (run, wc, nu, lc, le, af, tr, ms, cl, tm) (co, yn, yh, pa) ++ R) _ := hP
  have hD : va_D (zAb B) (zWM cI cJ cZ h 0 (n, L) ((zcb kt pt), (zcb km pm), (zcb kl pl)) mc (run, wc, nu, lc, le, af, tr, ms, cl, tm) (co, yn, yh, pa) ++ R) := hD
  refine lv_iload_n hx hb dX5_mistakes_5 rfl (lv_at hl 1 rfl) ?_
  refine lv_iconst (v := 1) hx hb dX5_mistakes_6 (by decide) ?_
  refine lv_icmp_lt (tgt := 24) hx hb dX5_mistakes_7 (by decide) (fun c_1 => ?_) (fun c_1 => ?_)
  · skip
    have c_1 : k < 1 := (nI_ltI (a := k) (b := 1) (by omega) (by omega)).mp c_1
    exfalso; first | omega | (revert c_1; decide) | (exact absurd rfl c_1) | simp_all
  · skip
    have c_1 : ¬ k < 1 := fun hh => c_1 ((nI_ltI (a := k) (b := 1) (by omega) (by omega)).mpr hh)
    refine lv_iload_n hx hb dX5_mistakes_10 rfl (lv_at hl 1 rfl) ?_
    refine lv_iconst (v := 4) hx hb dX5_mistakes_11 (by decide) ?_
    refine lv_icmp_gt (tgt := 24) hx hb dX5_mistakes_12 (by decide) (fun c_2 => ?_) (fun c_2 => ?_)
    · skip
      have c_2 : 4 < k := (nI_ltI (a := 4) (b := k) (by omega) (by omega)).mp c_2
      exfalso; first | omega | (revert c_2; decide) | (exact absurd rfl c_2) | simp_all
    · skip
      have c_2 : ¬ 4 < k := fun hh => c_2 ((nI_ltI (a := 4) (b := k) (by omega) (by omega)).mpr hh)
      refine lv_aload_n hx hb dX5_mistakes_15 rfl (lv_at hl 0 rfl) ?_
      refine va_get (ci := 5) (v := .ref (h 5)) (C := RX5) (T := TX5) (N := 20) hx hb hts hinX5 hown hK hP 0 rfl rfl 6 (by decide) (hts (.fieldLink RX5 23 "TypingTutorModel" "kindCounts" "[I") (List.mem_of_getElem? (i := 2) rfl)) (fun _ h9 => h9) rfl dX5_mistakes_16 ?_
      refine lv_iload_n hx hb dX5_mistakes_19 rfl (lv_at hl 1 rfl) ?_
      refine va_iald hx hb hK hP 5 0 rfl rfl (vp_in_nI (n := k) (N := 5) (by omega) (by omega)) dX5_mistakes_20 ?_
      rw [pk_cl (x := (nI k)) k (rfl) (by omega)]
      refine lv_goto (tgt := 29) hx hb dX5_mistakes_21 (by decide) ?_
      exact W.iret (v := (mc k)) hx hb hr (fun t ht hW => ⟨⟨_, (), rfl, rfl, by rw [ht]; exact hP, hD⟩, hS.F ht⟩) hS.2.2 dX5_mistakes_29

set_option maxHeartbeats 1000000 in
set_option maxRecDepth 100000 in
theorem c_X5_mistakes_x {l : Launch} {B kr kp : Nat} {D : va_G} {cI cJ cZ : ClassId} {h : Nat → Nat} {R : va_W} {th : Int32} {n : Nat} {L : Nat → Int64} {kt : Nat → Int32} {km : Nat → Int32} {kl : Nat → Int32} {pt : Nat → Int32} {pm : Nat → Int32} {pl : Nat → Int32} {nu : Nat → Int32} {le : Nat → Int32} {af : Nat → Int32} {run : Bool} {wc : Nat} {lc : Nat} {tr : Nat} {cl : Nat} {tm : Nat} {ms : Nat} {co : Nat} {yn : Nat} {yh : Nat → Int32} {pa : Int32} {mc : Nat → Int32} {i : Int32}   (hi : i < 1 ∨ ¬ i ≤ 4) : Met l yX5_mistakes wsX5_mistakes ({ frames := 1, cells := 0, slots := 0, locals := 21 }) (zPc B kr kp D (zTy cI cJ cZ) (zWM cI cJ cZ h th (n, L) ((zcb kt pt), (zcb km pm), (zcb kl pl)) mc (run, wc, nu, lc, le, af, tr, ms, cl, tm) (co, yn, yh, pa) ++ R) [.ref (h 0), .int i]) (zQi B D (zWM cI cJ cZ h 1 (n, L) ((zcb kt pt), (zcb km pm), (zcb kl pl)) mc (run, wc, nu, lc, le, af, tr, ms, cl, tm) (co, yn, yh, pa) ++ R) 0) 0 0 (zAb B) := by
  refine Met.ofW (cc := cX5_mistakes) (maxL := 2) (ret := (some .int)) (by decide) rfl ?_
  intro p e s m args below meth c s₁ B0 hml hv
  obtain ⟨rfl, hP, hD, hK, hE, hB⟩ := hv
  have hx := B0.exec
  have hb := B0.bytes
  have hr := B0.returns
  have hts := atoms_spec (ws := wsX5_mistakes) B0.pre
  have hown : s.vm.findClass RX5 = some m.cls := findClass_of_methodNamed B0.named
  have hlocks := B0.notSynchronized
  have hA : ∀ q : Nat, s.heap.size ≤ q → zAb B q := fun q hq => Nat.le_trans hB hq
  have hS : va_S (zAb B) s.heap s.heap [] := va_S.rf
  have hl := lv_entry ([.ref (h 0), .int i]) (n := 2) (Nat.le_of_ble_eq_true rfl)
  rw [lg_entry_eq]
  generalize (lg_sl ([.ref (h 0), .int i]) ++ List.replicate (2 - (lg_sl ([.ref (h 0), .int i])).length) Slot.unset).toArray = ls at hl ⊢
  have hl : lv_has ls 2 [(0, .ref (h 0)), (1, .int i)] := hl
  have hinX5 : ∀ w ∈ wsX50, w ∈ wsX5_mistakes := fun _ h => List.mem_cons_of_mem _ (List.mem_append_right _ h)
  have hP : va_P D vwCl (zWM cI cJ cZ h th (n, L) ((zcb kt pt), (zcb km pm), (zcb kl pl)) mc (run, wc, nu, lc, le, af, tr, ms, cl, tm) (co, yn, yh, pa) ++ R) s.heap := hP
  have hD : va_D (zAb B) (zWM cI cJ cZ h th (n, L) ((zcb kt pt), (zcb km pm), (zcb kl pl)) mc (run, wc, nu, lc, le, af, tr, ms, cl, tm) (co, yn, yh, pa) ++ R) := hD
  refine lv_aload_n hx hb dX5_mistakes_0 rfl (lv_at hl 0 rfl) ?_
  refine lv_iconst (v := 0) hx hb dX5_mistakes_1 (by decide) ?_
  refine va_put (ci := 5) (v := .int 0) (ty := .int) (C := RX5) (T := TX5) (N := 20) hx hb hts hinX5 tyX5 tyX5_ok nmX5 hown hK hP hD hS 0 rfl rfl 0 (by decide) (hts (.fieldLink RX5 43 "TypingTutorModel" "thrown" "I") (List.mem_of_getElem? (i := 1) rfl)) (fun _ h9 => h9) rfl (by decide +kernel) rfl rfl (Nat.le_of_ble_eq_true rfl) dX5_mistakes_2 (fun H locs hP hD hS => ?_)
  have hP : va_P D vwCl (zWM cI cJ cZ h 0 (n, L) ((zcb kt pt), (zcb km pm), (zcb kl pl)) mc (run, wc, nu, lc, le, af, tr, ms, cl, tm) (co, yn, yh, pa) ++ R) _ := hP
  have hD : va_D (zAb B) (zWM cI cJ cZ h 0 (n, L) ((zcb kt pt), (zcb km pm), (zcb kl pl)) mc (run, wc, nu, lc, le, af, tr, ms, cl, tm) (co, yn, yh, pa) ++ R) := hD
  refine lv_iload_n hx hb dX5_mistakes_5 rfl (lv_at hl 1 rfl) ?_
  refine lv_iconst (v := 1) hx hb dX5_mistakes_6 (by decide) ?_
  refine lv_icmp_lt (tgt := 24) hx hb dX5_mistakes_7 (by decide) (fun c_1 => ?_) (fun c_1 => ?_)
  · skip
    refine lv_aload_n hx hb dX5_mistakes_24 rfl (lv_at hl 0 rfl) ?_
    refine lv_iconst (v := 1) hx hb dX5_mistakes_25 (by decide) ?_
    refine zci (zrV (As := [.int 1]) (rest := []) ⟨hx, hb, hml, hown, hts⟩ (zV 0 hP hD hK hE hB hS rfl rfl) (c_X5_fail  ) (cwV 1 hts gX5_mistakes_X5_fail rfl rfl rfl hdv_X5_fail ⟨Nat.le_of_ble_eq_true rfl, Nat.le_of_ble_eq_true rfl⟩) rfl rfl hl.1 rfl (lv_room (Nat.le_of_ble_eq_true rfl)) dX5_mistakes_26 ⟨Nat.le_of_ble_eq_true rfl, Nat.le_of_ble_eq_true rfl⟩) hS (fun H locs hP hD hS => ?_)
    have hP : va_P D vwCl (zWM cI cJ cZ h 1 (n, L) ((zcb kt pt), (zcb km pm), (zcb kl pl)) mc (run, wc, nu, lc, le, af, tr, ms, cl, tm) (co, yn, yh, pa) ++ R) _ := hP
    have hD : va_D (zAb B) (zWM cI cJ cZ h 1 (n, L) ((zcb kt pt), (zcb km pm), (zcb kl pl)) mc (run, wc, nu, lc, le, af, tr, ms, cl, tm) (co, yn, yh, pa) ++ R) := hD
    exact W.iret (v := 0) hx hb hr (fun t ht hW => ⟨⟨_, (), rfl, rfl, by rw [ht]; exact hP, hD⟩, hS.F ht⟩) hS.2.2 dX5_mistakes_29
  · skip
    refine lv_iload_n hx hb dX5_mistakes_10 rfl (lv_at hl 1 rfl) ?_
    refine lv_iconst (v := 4) hx hb dX5_mistakes_11 (by decide) ?_
    refine lv_icmp_gt (tgt := 24) hx hb dX5_mistakes_12 (by decide) (fun c_2 => ?_) (fun c_2 => ?_)
    · skip
      refine lv_aload_n hx hb dX5_mistakes_24 rfl (lv_at hl 0 rfl) ?_
      refine lv_iconst (v := 1) hx hb dX5_mistakes_25 (by decide) ?_
      refine zci (zrV (As := [.int 1]) (rest := []) ⟨hx, hb, hml, hown, hts⟩ (zV 0 hP hD hK hE hB hS rfl rfl) (c_X5_fail  ) (cwV 1 hts gX5_mistakes_X5_fail rfl rfl rfl hdv_X5_fail ⟨Nat.le_of_ble_eq_true rfl, Nat.le_of_ble_eq_true rfl⟩) rfl rfl hl.1 rfl (lv_room (Nat.le_of_ble_eq_true rfl)) dX5_mistakes_26 ⟨Nat.le_of_ble_eq_true rfl, Nat.le_of_ble_eq_true rfl⟩) hS (fun H locs hP hD hS => ?_)
      have hP : va_P D vwCl (zWM cI cJ cZ h 1 (n, L) ((zcb kt pt), (zcb km pm), (zcb kl pl)) mc (run, wc, nu, lc, le, af, tr, ms, cl, tm) (co, yn, yh, pa) ++ R) _ := hP
      have hD : va_D (zAb B) (zWM cI cJ cZ h 1 (n, L) ((zcb kt pt), (zcb km pm), (zcb kl pl)) mc (run, wc, nu, lc, le, af, tr, ms, cl, tm) (co, yn, yh, pa) ++ R) := hD
      exact W.iret (v := 0) hx hb hr (fun t ht hW => ⟨⟨_, (), rfl, rfl, by rw [ht]; exact hP, hD⟩, hS.F ht⟩) hS.2.2 dX5_mistakes_29
    · skip
      exact hi.elim (fun q => absurd q c_1) (fun q => absurd (Int32.not_lt.mp c_2) q)

set_option maxHeartbeats 1000000 in
set_option maxRecDepth 100000 in
theorem c_X5_lessons {l : Launch} {B kr kp : Nat} {D : va_G} {cI cJ cZ : ClassId} {h : Nat → Nat} {R : va_W} {th : Int32} {n : Nat} {L : Nat → Int64} {kt : Nat → Int32} {km : Nat → Int32} {kl : Nat → Int32} {pt : Nat → Int32} {pm : Nat → Int32} {pl : Nat → Int32} {nu : Nat → Int32} {le : Nat → Int32} {af : Nat → Int32} {run : Bool} {wc : Nat} {lc : Nat} {tr : Nat} {cl : Nat} {tm : Nat} {ms : Nat} {co : Nat} {yn : Nat} {yh : Nat → Int32} {pa : Int32} {mc : Nat → Int32}     : Met l yX5_lessons wsX5_lessons ({ frames := 0, cells := 0, slots := 0, locals := 0 }) (zPc B kr kp D (zTy cI cJ cZ) (zWM cI cJ cZ h th (n, L) ((zcb kt pt), (zcb km pm), (zcb kl pl)) mc (run, wc, nu, lc, le, af, tr, ms, cl, tm) (co, yn, yh, pa) ++ R) [.ref (h 0)]) (zQi B D (zWM cI cJ cZ h 0 (n, L) ((zcb kt pt), (zcb km pm), (zcb kl pl)) mc (run, wc, nu, lc, le, af, tr, ms, cl, tm) (co, yn, yh, pa) ++ R) (nI co)) 0 0 (zAb B) := by
  refine Met.ofW (cc := cX5_lessons) (maxL := 1) (ret := (some .int)) (by decide) rfl ?_
  intro p e s m args below meth c s₁ B0 hml hv
  obtain ⟨rfl, hP, hD, hK, hE, hB⟩ := hv
  have hx := B0.exec
  have hb := B0.bytes
  have hr := B0.returns
  have hts := atoms_spec (ws := wsX5_lessons) B0.pre
  have hown : s.vm.findClass RX5 = some m.cls := findClass_of_methodNamed B0.named
  have hlocks := B0.notSynchronized
  have hA : ∀ q : Nat, s.heap.size ≤ q → zAb B q := fun q hq => Nat.le_trans hB hq
  have hS : va_S (zAb B) s.heap s.heap [] := va_S.rf
  have hl := lv_entry ([.ref (h 0)]) (n := 1) (Nat.le_of_ble_eq_true rfl)
  rw [lg_entry_eq]
  generalize (lg_sl ([.ref (h 0)]) ++ List.replicate (1 - (lg_sl ([.ref (h 0)])).length) Slot.unset).toArray = ls at hl ⊢
  have hl : lv_has ls 1 [(0, .ref (h 0))] := hl
  have hinX5 : ∀ w ∈ wsX50, w ∈ wsX5_lessons := fun _ h => List.mem_cons_of_mem _ (List.mem_append_right _ h)
  have hP : va_P D vwCl (zWM cI cJ cZ h th (n, L) ((zcb kt pt), (zcb km pm), (zcb kl pl)) mc (run, wc, nu, lc, le, af, tr, ms, cl, tm) (co, yn, yh, pa) ++ R) s.heap := hP
  have hD : va_D (zAb B) (zWM cI cJ cZ h th (n, L) ((zcb kt pt), (zcb km pm), (zcb kl pl)) mc (run, wc, nu, lc, le, af, tr, ms, cl, tm) (co, yn, yh, pa) ++ R) := hD
  refine lv_aload_n hx hb dX5_lessons_0 rfl (lv_at hl 0 rfl) ?_
  refine lv_iconst (v := 0) hx hb dX5_lessons_1 (by decide) ?_
  refine va_put (ci := 5) (v := .int 0) (ty := .int) (C := RX5) (T := TX5) (N := 20) hx hb hts hinX5 tyX5 tyX5_ok nmX5 hown hK hP hD hS 0 rfl rfl 0 (by decide) (hts (.fieldLink RX5 43 "TypingTutorModel" "thrown" "I") (List.mem_of_getElem? (i := 1) rfl)) (fun _ h9 => h9) rfl (by decide +kernel) rfl rfl (Nat.le_of_ble_eq_true rfl) dX5_lessons_2 (fun H locs hP hD hS => ?_)
  have hP : va_P D vwCl (zWM cI cJ cZ h 0 (n, L) ((zcb kt pt), (zcb km pm), (zcb kl pl)) mc (run, wc, nu, lc, le, af, tr, ms, cl, tm) (co, yn, yh, pa) ++ R) _ := hP
  have hD : va_D (zAb B) (zWM cI cJ cZ h 0 (n, L) ((zcb kt pt), (zcb km pm), (zcb kl pl)) mc (run, wc, nu, lc, le, af, tr, ms, cl, tm) (co, yn, yh, pa) ++ R) := hD
  refine lv_aload_n hx hb dX5_lessons_5 rfl (lv_at hl 0 rfl) ?_
  refine va_get (ci := 5) (v := .int (nI co)) (C := RX5) (T := TX5) (N := 20) hx hb hts hinX5 hown hK hP 0 rfl rfl 17 (by decide) (hts (.fieldLink RX5 145 "TypingTutorModel" "finished" "I") (List.mem_of_getElem? (i := 2) rfl)) (fun _ h9 => h9) rfl dX5_lessons_6 ?_
  exact W.iret (v := (nI co)) hx hb hr (fun t ht hW => ⟨⟨_, (), rfl, rfl, by rw [ht]; exact hP, hD⟩, hS.F ht⟩) hS.2.2 dX5_lessons_9

set_option maxHeartbeats 1000000 in
set_option maxRecDepth 100000 in
theorem c_X5_pace {l : Launch} {B kr kp : Nat} {D : va_G} {cI cJ cZ : ClassId} {h : Nat → Nat} {R : va_W} {th : Int32} {n : Nat} {L : Nat → Int64} {kt : Nat → Int32} {km : Nat → Int32} {kl : Nat → Int32} {pt : Nat → Int32} {pm : Nat → Int32} {pl : Nat → Int32} {nu : Nat → Int32} {le : Nat → Int32} {af : Nat → Int32} {run : Bool} {wc : Nat} {lc : Nat} {tr : Nat} {cl : Nat} {tm : Nat} {ms : Nat} {co : Nat} {yn : Nat} {yh : Nat → Int32} {pa : Int32} {mc : Nat → Int32}     : Met l yX5_pace wsX5_pace ({ frames := 0, cells := 0, slots := 0, locals := 0 }) (zPc B kr kp D (zTy cI cJ cZ) (zWM cI cJ cZ h th (n, L) ((zcb kt pt), (zcb km pm), (zcb kl pl)) mc (run, wc, nu, lc, le, af, tr, ms, cl, tm) (co, yn, yh, pa) ++ R) [.ref (h 0)]) (zQi B D (zWM cI cJ cZ h 0 (n, L) ((zcb kt pt), (zcb km pm), (zcb kl pl)) mc (run, wc, nu, lc, le, af, tr, ms, cl, tm) (co, yn, yh, pa) ++ R) pa) 0 0 (zAb B) := by
  refine Met.ofW (cc := cX5_pace) (maxL := 1) (ret := (some .int)) (by decide) rfl ?_
  intro p e s m args below meth c s₁ B0 hml hv
  obtain ⟨rfl, hP, hD, hK, hE, hB⟩ := hv
  have hx := B0.exec
  have hb := B0.bytes
  have hr := B0.returns
  have hts := atoms_spec (ws := wsX5_pace) B0.pre
  have hown : s.vm.findClass RX5 = some m.cls := findClass_of_methodNamed B0.named
  have hlocks := B0.notSynchronized
  have hA : ∀ q : Nat, s.heap.size ≤ q → zAb B q := fun q hq => Nat.le_trans hB hq
  have hS : va_S (zAb B) s.heap s.heap [] := va_S.rf
  have hl := lv_entry ([.ref (h 0)]) (n := 1) (Nat.le_of_ble_eq_true rfl)
  rw [lg_entry_eq]
  generalize (lg_sl ([.ref (h 0)]) ++ List.replicate (1 - (lg_sl ([.ref (h 0)])).length) Slot.unset).toArray = ls at hl ⊢
  have hl : lv_has ls 1 [(0, .ref (h 0))] := hl
  have hinX5 : ∀ w ∈ wsX50, w ∈ wsX5_pace := fun _ h => List.mem_cons_of_mem _ (List.mem_append_right _ h)
  have hP : va_P D vwCl (zWM cI cJ cZ h th (n, L) ((zcb kt pt), (zcb km pm), (zcb kl pl)) mc (run, wc, nu, lc, le, af, tr, ms, cl, tm) (co, yn, yh, pa) ++ R) s.heap := hP
  have hD : va_D (zAb B) (zWM cI cJ cZ h th (n, L) ((zcb kt pt), (zcb km pm), (zcb kl pl)) mc (run, wc, nu, lc, le, af, tr, ms, cl, tm) (co, yn, yh, pa) ++ R) := hD
  refine lv_aload_n hx hb dX5_pace_0 rfl (lv_at hl 0 rfl) ?_
  refine lv_iconst (v := 0) hx hb dX5_pace_1 (by decide) ?_
  refine va_put (ci := 5) (v := .int 0) (ty := .int) (C := RX5) (T := TX5) (N := 20) hx hb hts hinX5 tyX5 tyX5_ok nmX5 hown hK hP hD hS 0 rfl rfl 0 (by decide) (hts (.fieldLink RX5 43 "TypingTutorModel" "thrown" "I") (List.mem_of_getElem? (i := 1) rfl)) (fun _ h9 => h9) rfl (by decide +kernel) rfl rfl (Nat.le_of_ble_eq_true rfl) dX5_pace_2 (fun H locs hP hD hS => ?_)
  have hP : va_P D vwCl (zWM cI cJ cZ h 0 (n, L) ((zcb kt pt), (zcb km pm), (zcb kl pl)) mc (run, wc, nu, lc, le, af, tr, ms, cl, tm) (co, yn, yh, pa) ++ R) _ := hP
  have hD : va_D (zAb B) (zWM cI cJ cZ h 0 (n, L) ((zcb kt pt), (zcb km pm), (zcb kl pl)) mc (run, wc, nu, lc, le, af, tr, ms, cl, tm) (co, yn, yh, pa) ++ R) := hD
  refine lv_aload_n hx hb dX5_pace_5 rfl (lv_at hl 0 rfl) ?_
  refine va_get (ci := 5) (v := .int pa) (C := RX5) (T := TX5) (N := 20) hx hb hts hinX5 hown hK hP 0 rfl rfl 19 (by decide) (hts (.fieldLink RX5 39 "TypingTutorModel" "pace" "I") (List.mem_of_getElem? (i := 2) rfl)) (fun _ h9 => h9) rfl dX5_pace_6 ?_
  exact W.iret (v := pa) hx hb hr (fun t ht hW => ⟨⟨_, (), rfl, rfl, by rw [ht]; exact hP, hD⟩, hS.F ht⟩) hS.2.2 dX5_pace_9

set_option maxHeartbeats 1000000 in
set_option maxRecDepth 100000 in
theorem c_X5_lesson_0 {l : Launch} {B kr kp : Nat} {D : va_G} {cI cJ cZ : ClassId} {h : Nat → Nat} {R : va_W} {th : Int32} {n : Nat} {L : Nat → Int64} {kt : Nat → Int32} {km : Nat → Int32} {kl : Nat → Int32} {pt : Nat → Int32} {pm : Nat → Int32} {pl : Nat → Int32} {nu : Nat → Int32} {le : Nat → Int32} {af : Nat → Int32} {run : Bool} {wc : Nat} {lc : Nat} {tr : Nat} {cl : Nat} {tm : Nat} {ms : Nat} {co : Nat} {yn : Nat} {yh : Nat → Int32} {pa : Int32} {mc : Nat → Int32} {k : Nat} {yl : Nat → Int32} {yc : Nat → Int32} {yt : Nat → Int32}  (hH : zHi yh yl yc yt co) (hk : k < co) (hhn : 3 * co ≤ yn) (hh3 : yn ≤ 1530) : Met l yX5_lesson wsX5_lesson ({ frames := 1, cells := 0, slots := 0, locals := 22 }) (zPc B kr kp D (zTy cI cJ cZ) (zWM cI cJ cZ h th (n, L) ((zcb kt pt), (zcb km pm), (zcb kl pl)) mc (run, wc, nu, lc, le, af, tr, ms, cl, tm) (co, yn, yh, pa) ++ R) [.ref (h 0), .int (nI k), .int 0]) (zQi B D (zWM cI cJ cZ h 0 (n, L) ((zcb kt pt), (zcb km pm), (zcb kl pl)) mc (run, wc, nu, lc, le, af, tr, ms, cl, tm) (co, yn, yh, pa) ++ R) (yl k)) 0 0 (zAb B) := by
  refine Met.ofW (cc := cX5_lesson) (maxL := 3) (ret := (some .int)) (by decide) rfl ?_
  intro p e s m args below meth c s₁ B0 hml hv
  obtain ⟨rfl, hP, hD, hK, hE, hB⟩ := hv
  have hx := B0.exec
  have hb := B0.bytes
  have hr := B0.returns
  have hts := atoms_spec (ws := wsX5_lesson) B0.pre
  have hown : s.vm.findClass RX5 = some m.cls := findClass_of_methodNamed B0.named
  have hlocks := B0.notSynchronized
  have hA : ∀ q : Nat, s.heap.size ≤ q → zAb B q := fun q hq => Nat.le_trans hB hq
  have hS : va_S (zAb B) s.heap s.heap [] := va_S.rf
  have hl := lv_entry ([.ref (h 0), .int (nI k), .int 0]) (n := 3) (Nat.le_of_ble_eq_true rfl)
  rw [lg_entry_eq]
  generalize (lg_sl ([.ref (h 0), .int (nI k), .int 0]) ++ List.replicate (3 - (lg_sl ([.ref (h 0), .int (nI k), .int 0])).length) Slot.unset).toArray = ls at hl ⊢
  have hl : lv_has ls 3 [(0, .ref (h 0)), (1, .int (nI k)), (2, .int 0)] := hl
  have hinX5 : ∀ w ∈ wsX50, w ∈ wsX5_lesson := fun _ h => List.mem_cons_of_mem _ (List.mem_append_right _ h)
  have hP : va_P D vwCl (zWM cI cJ cZ h th (n, L) ((zcb kt pt), (zcb km pm), (zcb kl pl)) mc (run, wc, nu, lc, le, af, tr, ms, cl, tm) (co, yn, yh, pa) ++ R) s.heap := hP
  have hD : va_D (zAb B) (zWM cI cJ cZ h th (n, L) ((zcb kt pt), (zcb km pm), (zcb kl pl)) mc (run, wc, nu, lc, le, af, tr, ms, cl, tm) (co, yn, yh, pa) ++ R) := hD
  refine lv_aload_n hx hb dX5_lesson_0 rfl (lv_at hl 0 rfl) ?_
  refine lv_iconst (v := 0) hx hb dX5_lesson_1 (by decide) ?_
  refine va_put (ci := 5) (v := .int 0) (ty := .int) (C := RX5) (T := TX5) (N := 20) hx hb hts hinX5 tyX5 tyX5_ok nmX5 hown hK hP hD hS 0 rfl rfl 0 (by decide) (hts (.fieldLink RX5 43 "TypingTutorModel" "thrown" "I") (List.mem_of_getElem? (i := 1) rfl)) (fun _ h9 => h9) rfl (by decide +kernel) rfl rfl (Nat.le_of_ble_eq_true rfl) dX5_lesson_2 (fun H locs hP hD hS => ?_)
  have hP : va_P D vwCl (zWM cI cJ cZ h 0 (n, L) ((zcb kt pt), (zcb km pm), (zcb kl pl)) mc (run, wc, nu, lc, le, af, tr, ms, cl, tm) (co, yn, yh, pa) ++ R) _ := hP
  have hD : va_D (zAb B) (zWM cI cJ cZ h 0 (n, L) ((zcb kt pt), (zcb km pm), (zcb kl pl)) mc (run, wc, nu, lc, le, af, tr, ms, cl, tm) (co, yn, yh, pa) ++ R) := hD
  refine lv_iload_n hx hb dX5_lesson_5 rfl (lv_at hl 1 rfl) ?_
  refine lv_if_lt (tgt := 35) hx hb dX5_lesson_6 (by decide) (fun c_1 => ?_) (fun c_1 => ?_)
  · skip
    have c_1 : k < 0 := (nI_ltI (a := k) (b := 0) (by omega) (by omega)).mp c_1
    exfalso; first | omega | (revert c_1; decide) | (exact absurd rfl c_1) | simp_all
  · skip
    have c_1 : ¬ k < 0 := fun hh => c_1 ((nI_ltI (a := k) (b := 0) (by omega) (by omega)).mpr hh)
    refine lv_iload_n hx hb dX5_lesson_9 rfl (lv_at hl 1 rfl) ?_
    refine lv_aload_n hx hb dX5_lesson_10 rfl (lv_at hl 0 rfl) ?_
    refine va_get (ci := 5) (v := .int (nI co)) (C := RX5) (T := TX5) (N := 20) hx hb hts hinX5 hown hK hP 0 rfl rfl 17 (by decide) (hts (.fieldLink RX5 145 "TypingTutorModel" "finished" "I") (List.mem_of_getElem? (i := 2) rfl)) (fun _ h9 => h9) rfl dX5_lesson_11 ?_
    refine lv_icmp_ge (tgt := 35) hx hb dX5_lesson_14 (by decide) (fun c_2 => ?_) (fun c_2 => ?_)
    · skip
      have c_2 : co ≤ k := (nI_leI (a := co) (b := k) (by omega) (by omega)).mp c_2
      exfalso; first | omega | (revert c_2; decide) | (exact absurd rfl c_2) | simp_all
    · skip
      have c_2 : ¬ co ≤ k := fun hh => c_2 ((nI_leI (a := co) (b := k) (by omega) (by omega)).mpr hh)
      refine lv_iload_n hx hb dX5_lesson_17 rfl (lv_at hl 2 rfl) ?_
      refine lv_if_lt (tgt := 35) hx hb dX5_lesson_18 (by decide) (fun c_3 => ?_) (fun c_3 => ?_)
      · skip
        exfalso; first | omega | (revert c_3; decide) | (exact absurd rfl c_3) | simp_all
      · skip
        refine lv_iload_n hx hb dX5_lesson_21 rfl (lv_at hl 2 rfl) ?_
        refine lv_iconst (v := 3) hx hb dX5_lesson_22 (by decide) ?_
        refine lv_icmp_gt (tgt := 35) hx hb dX5_lesson_23 (by decide) (fun c_4 => ?_) (fun c_4 => ?_)
        · skip
          exfalso; first | omega | (revert c_4; decide) | (exact absurd rfl c_4) | simp_all
        · skip
          refine lv_aload_n hx hb dX5_lesson_26 rfl (lv_at hl 0 rfl) ?_
          refine lv_iload_n hx hb dX5_lesson_27 rfl (lv_at hl 1 rfl) ?_
          refine lv_iload_n hx hb dX5_lesson_28 rfl (lv_at hl 2 rfl) ?_
          refine zci (zrV (As := [.int (nI k), .int 0]) (rest := []) ⟨hx, hb, hml, hown, hts⟩ (zV 0 hP hD hK hE hB hS rfl rfl) (c_X5_told_0 (k := k) (yl := yl) (yc := yc) (yt := yt) (hH) (hk) (hhn) (hh3)) (cwV 2 hts gX5_lesson_X5_told rfl rfl rfl hdv_X5_told ⟨Nat.le_of_ble_eq_true rfl, Nat.le_of_ble_eq_true rfl⟩) rfl rfl hl.1 rfl (lv_room (Nat.le_of_ble_eq_true rfl)) dX5_lesson_29 ⟨Nat.le_of_ble_eq_true rfl, Nat.le_of_ble_eq_true rfl⟩) hS (fun H locs hP hD hS => ?_)
          have hP : va_P D vwCl (zWM cI cJ cZ h 0 (n, L) ((zcb kt pt), (zcb km pm), (zcb kl pl)) mc (run, wc, nu, lc, le, af, tr, ms, cl, tm) (co, yn, yh, pa) ++ R) _ := hP
          have hD : va_D (zAb B) (zWM cI cJ cZ h 0 (n, L) ((zcb kt pt), (zcb km pm), (zcb kl pl)) mc (run, wc, nu, lc, le, af, tr, ms, cl, tm) (co, yn, yh, pa) ++ R) := hD
          refine lv_goto (tgt := 40) hx hb dX5_lesson_32 (by decide) ?_
          exact W.iret (v := (yl k)) hx hb hr (fun t ht hW => ⟨⟨_, (), rfl, rfl, by rw [ht]; exact hP, hD⟩, hS.F ht⟩) hS.2.2 dX5_lesson_40

set_option maxHeartbeats 1000000 in
set_option maxRecDepth 100000 in
theorem c_X5_lesson_1 {l : Launch} {B kr kp : Nat} {D : va_G} {cI cJ cZ : ClassId} {h : Nat → Nat} {R : va_W} {th : Int32} {n : Nat} {L : Nat → Int64} {kt : Nat → Int32} {km : Nat → Int32} {kl : Nat → Int32} {pt : Nat → Int32} {pm : Nat → Int32} {pl : Nat → Int32} {nu : Nat → Int32} {le : Nat → Int32} {af : Nat → Int32} {run : Bool} {wc : Nat} {lc : Nat} {tr : Nat} {cl : Nat} {tm : Nat} {ms : Nat} {co : Nat} {yn : Nat} {yh : Nat → Int32} {pa : Int32} {mc : Nat → Int32} {k : Nat} {yl : Nat → Int32} {yc : Nat → Int32} {yt : Nat → Int32}  (hH : zHi yh yl yc yt co) (hk : k < co) (hhn : 3 * co ≤ yn) (hh3 : yn ≤ 1530) : Met l yX5_lesson wsX5_lesson ({ frames := 1, cells := 0, slots := 0, locals := 22 }) (zPc B kr kp D (zTy cI cJ cZ) (zWM cI cJ cZ h th (n, L) ((zcb kt pt), (zcb km pm), (zcb kl pl)) mc (run, wc, nu, lc, le, af, tr, ms, cl, tm) (co, yn, yh, pa) ++ R) [.ref (h 0), .int (nI k), .int 1]) (zQi B D (zWM cI cJ cZ h 0 (n, L) ((zcb kt pt), (zcb km pm), (zcb kl pl)) mc (run, wc, nu, lc, le, af, tr, ms, cl, tm) (co, yn, yh, pa) ++ R) (yc k)) 0 0 (zAb B) := by
  refine Met.ofW (cc := cX5_lesson) (maxL := 3) (ret := (some .int)) (by decide) rfl ?_
  intro p e s m args below meth c s₁ B0 hml hv
  obtain ⟨rfl, hP, hD, hK, hE, hB⟩ := hv
  have hx := B0.exec
  have hb := B0.bytes
  have hr := B0.returns
  have hts := atoms_spec (ws := wsX5_lesson) B0.pre
  have hown : s.vm.findClass RX5 = some m.cls := findClass_of_methodNamed B0.named
  have hlocks := B0.notSynchronized
  have hA : ∀ q : Nat, s.heap.size ≤ q → zAb B q := fun q hq => Nat.le_trans hB hq
  have hS : va_S (zAb B) s.heap s.heap [] := va_S.rf
  have hl := lv_entry ([.ref (h 0), .int (nI k), .int 1]) (n := 3) (Nat.le_of_ble_eq_true rfl)
  rw [lg_entry_eq]
  generalize (lg_sl ([.ref (h 0), .int (nI k), .int 1]) ++ List.replicate (3 - (lg_sl ([.ref (h 0), .int (nI k), .int 1])).length) Slot.unset).toArray = ls at hl ⊢
  have hl : lv_has ls 3 [(0, .ref (h 0)), (1, .int (nI k)), (2, .int 1)] := hl
  have hinX5 : ∀ w ∈ wsX50, w ∈ wsX5_lesson := fun _ h => List.mem_cons_of_mem _ (List.mem_append_right _ h)
  have hP : va_P D vwCl (zWM cI cJ cZ h th (n, L) ((zcb kt pt), (zcb km pm), (zcb kl pl)) mc (run, wc, nu, lc, le, af, tr, ms, cl, tm) (co, yn, yh, pa) ++ R) s.heap := hP
  have hD : va_D (zAb B) (zWM cI cJ cZ h th (n, L) ((zcb kt pt), (zcb km pm), (zcb kl pl)) mc (run, wc, nu, lc, le, af, tr, ms, cl, tm) (co, yn, yh, pa) ++ R) := hD
  refine lv_aload_n hx hb dX5_lesson_0 rfl (lv_at hl 0 rfl) ?_
  refine lv_iconst (v := 0) hx hb dX5_lesson_1 (by decide) ?_
  refine va_put (ci := 5) (v := .int 0) (ty := .int) (C := RX5) (T := TX5) (N := 20) hx hb hts hinX5 tyX5 tyX5_ok nmX5 hown hK hP hD hS 0 rfl rfl 0 (by decide) (hts (.fieldLink RX5 43 "TypingTutorModel" "thrown" "I") (List.mem_of_getElem? (i := 1) rfl)) (fun _ h9 => h9) rfl (by decide +kernel) rfl rfl (Nat.le_of_ble_eq_true rfl) dX5_lesson_2 (fun H locs hP hD hS => ?_)
  have hP : va_P D vwCl (zWM cI cJ cZ h 0 (n, L) ((zcb kt pt), (zcb km pm), (zcb kl pl)) mc (run, wc, nu, lc, le, af, tr, ms, cl, tm) (co, yn, yh, pa) ++ R) _ := hP
  have hD : va_D (zAb B) (zWM cI cJ cZ h 0 (n, L) ((zcb kt pt), (zcb km pm), (zcb kl pl)) mc (run, wc, nu, lc, le, af, tr, ms, cl, tm) (co, yn, yh, pa) ++ R) := hD
  refine lv_iload_n hx hb dX5_lesson_5 rfl (lv_at hl 1 rfl) ?_
  refine lv_if_lt (tgt := 35) hx hb dX5_lesson_6 (by decide) (fun c_1 => ?_) (fun c_1 => ?_)
  · skip
    have c_1 : k < 0 := (nI_ltI (a := k) (b := 0) (by omega) (by omega)).mp c_1
    exfalso; first | omega | (revert c_1; decide) | (exact absurd rfl c_1) | simp_all
  · skip
    have c_1 : ¬ k < 0 := fun hh => c_1 ((nI_ltI (a := k) (b := 0) (by omega) (by omega)).mpr hh)
    refine lv_iload_n hx hb dX5_lesson_9 rfl (lv_at hl 1 rfl) ?_
    refine lv_aload_n hx hb dX5_lesson_10 rfl (lv_at hl 0 rfl) ?_
    refine va_get (ci := 5) (v := .int (nI co)) (C := RX5) (T := TX5) (N := 20) hx hb hts hinX5 hown hK hP 0 rfl rfl 17 (by decide) (hts (.fieldLink RX5 145 "TypingTutorModel" "finished" "I") (List.mem_of_getElem? (i := 2) rfl)) (fun _ h9 => h9) rfl dX5_lesson_11 ?_
    refine lv_icmp_ge (tgt := 35) hx hb dX5_lesson_14 (by decide) (fun c_2 => ?_) (fun c_2 => ?_)
    · skip
      have c_2 : co ≤ k := (nI_leI (a := co) (b := k) (by omega) (by omega)).mp c_2
      exfalso; first | omega | (revert c_2; decide) | (exact absurd rfl c_2) | simp_all
    · skip
      have c_2 : ¬ co ≤ k := fun hh => c_2 ((nI_leI (a := co) (b := k) (by omega) (by omega)).mpr hh)
      refine lv_iload_n hx hb dX5_lesson_17 rfl (lv_at hl 2 rfl) ?_
      refine lv_if_lt (tgt := 35) hx hb dX5_lesson_18 (by decide) (fun c_3 => ?_) (fun c_3 => ?_)
      · skip
        exfalso; first | omega | (revert c_3; decide) | (exact absurd rfl c_3) | simp_all
      · skip
        refine lv_iload_n hx hb dX5_lesson_21 rfl (lv_at hl 2 rfl) ?_
        refine lv_iconst (v := 3) hx hb dX5_lesson_22 (by decide) ?_
        refine lv_icmp_gt (tgt := 35) hx hb dX5_lesson_23 (by decide) (fun c_4 => ?_) (fun c_4 => ?_)
        · skip
          exfalso; first | omega | (revert c_4; decide) | (exact absurd rfl c_4) | simp_all
        · skip
          refine lv_aload_n hx hb dX5_lesson_26 rfl (lv_at hl 0 rfl) ?_
          refine lv_iload_n hx hb dX5_lesson_27 rfl (lv_at hl 1 rfl) ?_
          refine lv_iload_n hx hb dX5_lesson_28 rfl (lv_at hl 2 rfl) ?_
          refine zci (zrV (As := [.int (nI k), .int 1]) (rest := []) ⟨hx, hb, hml, hown, hts⟩ (zV 0 hP hD hK hE hB hS rfl rfl) (c_X5_told_1 (k := k) (yl := yl) (yc := yc) (yt := yt) (hH) (hk) (hhn) (hh3)) (cwV 2 hts gX5_lesson_X5_told rfl rfl rfl hdv_X5_told ⟨Nat.le_of_ble_eq_true rfl, Nat.le_of_ble_eq_true rfl⟩) rfl rfl hl.1 rfl (lv_room (Nat.le_of_ble_eq_true rfl)) dX5_lesson_29 ⟨Nat.le_of_ble_eq_true rfl, Nat.le_of_ble_eq_true rfl⟩) hS (fun H locs hP hD hS => ?_)
          have hP : va_P D vwCl (zWM cI cJ cZ h 0 (n, L) ((zcb kt pt), (zcb km pm), (zcb kl pl)) mc (run, wc, nu, lc, le, af, tr, ms, cl, tm) (co, yn, yh, pa) ++ R) _ := hP
          have hD : va_D (zAb B) (zWM cI cJ cZ h 0 (n, L) ((zcb kt pt), (zcb km pm), (zcb kl pl)) mc (run, wc, nu, lc, le, af, tr, ms, cl, tm) (co, yn, yh, pa) ++ R) := hD
          refine lv_goto (tgt := 40) hx hb dX5_lesson_32 (by decide) ?_
          exact W.iret (v := (yc k)) hx hb hr (fun t ht hW => ⟨⟨_, (), rfl, rfl, by rw [ht]; exact hP, hD⟩, hS.F ht⟩) hS.2.2 dX5_lesson_40

set_option maxHeartbeats 1000000 in
set_option maxRecDepth 100000 in
theorem c_X5_lesson_2 {l : Launch} {B kr kp : Nat} {D : va_G} {cI cJ cZ : ClassId} {h : Nat → Nat} {R : va_W} {th : Int32} {n : Nat} {L : Nat → Int64} {kt : Nat → Int32} {km : Nat → Int32} {kl : Nat → Int32} {pt : Nat → Int32} {pm : Nat → Int32} {pl : Nat → Int32} {nu : Nat → Int32} {le : Nat → Int32} {af : Nat → Int32} {run : Bool} {wc : Nat} {lc : Nat} {tr : Nat} {cl : Nat} {tm : Nat} {ms : Nat} {co : Nat} {yn : Nat} {yh : Nat → Int32} {pa : Int32} {mc : Nat → Int32} {k : Nat} {yl : Nat → Int32} {yc : Nat → Int32} {yt : Nat → Int32}  (hH : zHi yh yl yc yt co) (hk : k < co) (hhn : 3 * co ≤ yn) (hh3 : yn ≤ 1530) : Met l yX5_lesson wsX5_lesson ({ frames := 1, cells := 0, slots := 0, locals := 22 }) (zPc B kr kp D (zTy cI cJ cZ) (zWM cI cJ cZ h th (n, L) ((zcb kt pt), (zcb km pm), (zcb kl pl)) mc (run, wc, nu, lc, le, af, tr, ms, cl, tm) (co, yn, yh, pa) ++ R) [.ref (h 0), .int (nI k), .int 2]) (zQi B D (zWM cI cJ cZ h 0 (n, L) ((zcb kt pt), (zcb km pm), (zcb kl pl)) mc (run, wc, nu, lc, le, af, tr, ms, cl, tm) (co, yn, yh, pa) ++ R) (yt k)) 0 0 (zAb B) := by
  refine Met.ofW (cc := cX5_lesson) (maxL := 3) (ret := (some .int)) (by decide) rfl ?_
  intro p e s m args below meth c s₁ B0 hml hv
  obtain ⟨rfl, hP, hD, hK, hE, hB⟩ := hv
  have hx := B0.exec
  have hb := B0.bytes
  have hr := B0.returns
  have hts := atoms_spec (ws := wsX5_lesson) B0.pre
  have hown : s.vm.findClass RX5 = some m.cls := findClass_of_methodNamed B0.named
  have hlocks := B0.notSynchronized
  have hA : ∀ q : Nat, s.heap.size ≤ q → zAb B q := fun q hq => Nat.le_trans hB hq
  have hS : va_S (zAb B) s.heap s.heap [] := va_S.rf
  have hl := lv_entry ([.ref (h 0), .int (nI k), .int 2]) (n := 3) (Nat.le_of_ble_eq_true rfl)
  rw [lg_entry_eq]
  generalize (lg_sl ([.ref (h 0), .int (nI k), .int 2]) ++ List.replicate (3 - (lg_sl ([.ref (h 0), .int (nI k), .int 2])).length) Slot.unset).toArray = ls at hl ⊢
  have hl : lv_has ls 3 [(0, .ref (h 0)), (1, .int (nI k)), (2, .int 2)] := hl
  have hinX5 : ∀ w ∈ wsX50, w ∈ wsX5_lesson := fun _ h => List.mem_cons_of_mem _ (List.mem_append_right _ h)
  have hP : va_P D vwCl (zWM cI cJ cZ h th (n, L) ((zcb kt pt), (zcb km pm), (zcb kl pl)) mc (run, wc, nu, lc, le, af, tr, ms, cl, tm) (co, yn, yh, pa) ++ R) s.heap := hP
  have hD : va_D (zAb B) (zWM cI cJ cZ h th (n, L) ((zcb kt pt), (zcb km pm), (zcb kl pl)) mc (run, wc, nu, lc, le, af, tr, ms, cl, tm) (co, yn, yh, pa) ++ R) := hD
  refine lv_aload_n hx hb dX5_lesson_0 rfl (lv_at hl 0 rfl) ?_
  refine lv_iconst (v := 0) hx hb dX5_lesson_1 (by decide) ?_
  refine va_put (ci := 5) (v := .int 0) (ty := .int) (C := RX5) (T := TX5) (N := 20) hx hb hts hinX5 tyX5 tyX5_ok nmX5 hown hK hP hD hS 0 rfl rfl 0 (by decide) (hts (.fieldLink RX5 43 "TypingTutorModel" "thrown" "I") (List.mem_of_getElem? (i := 1) rfl)) (fun _ h9 => h9) rfl (by decide +kernel) rfl rfl (Nat.le_of_ble_eq_true rfl) dX5_lesson_2 (fun H locs hP hD hS => ?_)
  have hP : va_P D vwCl (zWM cI cJ cZ h 0 (n, L) ((zcb kt pt), (zcb km pm), (zcb kl pl)) mc (run, wc, nu, lc, le, af, tr, ms, cl, tm) (co, yn, yh, pa) ++ R) _ := hP
  have hD : va_D (zAb B) (zWM cI cJ cZ h 0 (n, L) ((zcb kt pt), (zcb km pm), (zcb kl pl)) mc (run, wc, nu, lc, le, af, tr, ms, cl, tm) (co, yn, yh, pa) ++ R) := hD
  refine lv_iload_n hx hb dX5_lesson_5 rfl (lv_at hl 1 rfl) ?_
  refine lv_if_lt (tgt := 35) hx hb dX5_lesson_6 (by decide) (fun c_1 => ?_) (fun c_1 => ?_)
  · skip
    have c_1 : k < 0 := (nI_ltI (a := k) (b := 0) (by omega) (by omega)).mp c_1
    exfalso; first | omega | (revert c_1; decide) | (exact absurd rfl c_1) | simp_all
  · skip
    have c_1 : ¬ k < 0 := fun hh => c_1 ((nI_ltI (a := k) (b := 0) (by omega) (by omega)).mpr hh)
    refine lv_iload_n hx hb dX5_lesson_9 rfl (lv_at hl 1 rfl) ?_
    refine lv_aload_n hx hb dX5_lesson_10 rfl (lv_at hl 0 rfl) ?_
    refine va_get (ci := 5) (v := .int (nI co)) (C := RX5) (T := TX5) (N := 20) hx hb hts hinX5 hown hK hP 0 rfl rfl 17 (by decide) (hts (.fieldLink RX5 145 "TypingTutorModel" "finished" "I") (List.mem_of_getElem? (i := 2) rfl)) (fun _ h9 => h9) rfl dX5_lesson_11 ?_
    refine lv_icmp_ge (tgt := 35) hx hb dX5_lesson_14 (by decide) (fun c_2 => ?_) (fun c_2 => ?_)
    · skip
      have c_2 : co ≤ k := (nI_leI (a := co) (b := k) (by omega) (by omega)).mp c_2
      exfalso; first | omega | (revert c_2; decide) | (exact absurd rfl c_2) | simp_all
    · skip
      have c_2 : ¬ co ≤ k := fun hh => c_2 ((nI_leI (a := co) (b := k) (by omega) (by omega)).mpr hh)
      refine lv_iload_n hx hb dX5_lesson_17 rfl (lv_at hl 2 rfl) ?_
      refine lv_if_lt (tgt := 35) hx hb dX5_lesson_18 (by decide) (fun c_3 => ?_) (fun c_3 => ?_)
      · skip
        exfalso; first | omega | (revert c_3; decide) | (exact absurd rfl c_3) | simp_all
      · skip
        refine lv_iload_n hx hb dX5_lesson_21 rfl (lv_at hl 2 rfl) ?_
        refine lv_iconst (v := 3) hx hb dX5_lesson_22 (by decide) ?_
        refine lv_icmp_gt (tgt := 35) hx hb dX5_lesson_23 (by decide) (fun c_4 => ?_) (fun c_4 => ?_)
        · skip
          exfalso; first | omega | (revert c_4; decide) | (exact absurd rfl c_4) | simp_all
        · skip
          refine lv_aload_n hx hb dX5_lesson_26 rfl (lv_at hl 0 rfl) ?_
          refine lv_iload_n hx hb dX5_lesson_27 rfl (lv_at hl 1 rfl) ?_
          refine lv_iload_n hx hb dX5_lesson_28 rfl (lv_at hl 2 rfl) ?_
          refine zci (zrV (As := [.int (nI k), .int 2]) (rest := []) ⟨hx, hb, hml, hown, hts⟩ (zV 0 hP hD hK hE hB hS rfl rfl) (c_X5_told_2 (k := k) (yl := yl) (yc := yc) (yt := yt) (hH) (hk) (hhn) (hh3)) (cwV 2 hts gX5_lesson_X5_told rfl rfl rfl hdv_X5_told ⟨Nat.le_of_ble_eq_true rfl, Nat.le_of_ble_eq_true rfl⟩) rfl rfl hl.1 rfl (lv_room (Nat.le_of_ble_eq_true rfl)) dX5_lesson_29 ⟨Nat.le_of_ble_eq_true rfl, Nat.le_of_ble_eq_true rfl⟩) hS (fun H locs hP hD hS => ?_)
          have hP : va_P D vwCl (zWM cI cJ cZ h 0 (n, L) ((zcb kt pt), (zcb km pm), (zcb kl pl)) mc (run, wc, nu, lc, le, af, tr, ms, cl, tm) (co, yn, yh, pa) ++ R) _ := hP
          have hD : va_D (zAb B) (zWM cI cJ cZ h 0 (n, L) ((zcb kt pt), (zcb km pm), (zcb kl pl)) mc (run, wc, nu, lc, le, af, tr, ms, cl, tm) (co, yn, yh, pa) ++ R) := hD
          refine lv_goto (tgt := 40) hx hb dX5_lesson_32 (by decide) ?_
          exact W.iret (v := (yt k)) hx hb hr (fun t ht hW => ⟨⟨_, (), rfl, rfl, by rw [ht]; exact hP, hD⟩, hS.F ht⟩) hS.2.2 dX5_lesson_40

set_option maxHeartbeats 1000000 in
set_option maxRecDepth 100000 in
theorem c_X5_lesson_3 {l : Launch} {B kr kp : Nat} {D : va_G} {cI cJ cZ : ClassId} {h : Nat → Nat} {R : va_W} {th : Int32} {n : Nat} {L : Nat → Int64} {kt : Nat → Int32} {km : Nat → Int32} {kl : Nat → Int32} {pt : Nat → Int32} {pm : Nat → Int32} {pl : Nat → Int32} {nu : Nat → Int32} {le : Nat → Int32} {af : Nat → Int32} {run : Bool} {wc : Nat} {lc : Nat} {tr : Nat} {cl : Nat} {tm : Nat} {ms : Nat} {co : Nat} {yn : Nat} {yh : Nat → Int32} {pa : Int32} {mc : Nat → Int32} {k : Nat} {yl : Nat → Int32} {yc : Nat → Int32} {yt : Nat → Int32}  (hH : zHi yh yl yc yt co) (hk : k < co) (hhn : 3 * co ≤ yn) (hh3 : yn ≤ 1530) : Met l yX5_lesson wsX5_lesson ({ frames := 1, cells := 0, slots := 0, locals := 22 }) (zPc B kr kp D (zTy cI cJ cZ) (zWM cI cJ cZ h th (n, L) ((zcb kt pt), (zcb km pm), (zcb kl pl)) mc (run, wc, nu, lc, le, af, tr, ms, cl, tm) (co, yn, yh, pa) ++ R) [.ref (h 0), .int (nI k), .int 3]) (zQi B D (zWM cI cJ cZ h 0 (n, L) ((zcb kt pt), (zcb km pm), (zcb kl pl)) mc (run, wc, nu, lc, le, af, tr, ms, cl, tm) (co, yn, yh, pa) ++ R) (zsp yl yt k)) 0 0 (zAb B) := by
  refine Met.ofW (cc := cX5_lesson) (maxL := 3) (ret := (some .int)) (by decide) rfl ?_
  intro p e s m args below meth c s₁ B0 hml hv
  obtain ⟨rfl, hP, hD, hK, hE, hB⟩ := hv
  have hx := B0.exec
  have hb := B0.bytes
  have hr := B0.returns
  have hts := atoms_spec (ws := wsX5_lesson) B0.pre
  have hown : s.vm.findClass RX5 = some m.cls := findClass_of_methodNamed B0.named
  have hlocks := B0.notSynchronized
  have hA : ∀ q : Nat, s.heap.size ≤ q → zAb B q := fun q hq => Nat.le_trans hB hq
  have hS : va_S (zAb B) s.heap s.heap [] := va_S.rf
  have hl := lv_entry ([.ref (h 0), .int (nI k), .int 3]) (n := 3) (Nat.le_of_ble_eq_true rfl)
  rw [lg_entry_eq]
  generalize (lg_sl ([.ref (h 0), .int (nI k), .int 3]) ++ List.replicate (3 - (lg_sl ([.ref (h 0), .int (nI k), .int 3])).length) Slot.unset).toArray = ls at hl ⊢
  have hl : lv_has ls 3 [(0, .ref (h 0)), (1, .int (nI k)), (2, .int 3)] := hl
  have hinX5 : ∀ w ∈ wsX50, w ∈ wsX5_lesson := fun _ h => List.mem_cons_of_mem _ (List.mem_append_right _ h)
  have hP : va_P D vwCl (zWM cI cJ cZ h th (n, L) ((zcb kt pt), (zcb km pm), (zcb kl pl)) mc (run, wc, nu, lc, le, af, tr, ms, cl, tm) (co, yn, yh, pa) ++ R) s.heap := hP
  have hD : va_D (zAb B) (zWM cI cJ cZ h th (n, L) ((zcb kt pt), (zcb km pm), (zcb kl pl)) mc (run, wc, nu, lc, le, af, tr, ms, cl, tm) (co, yn, yh, pa) ++ R) := hD
  refine lv_aload_n hx hb dX5_lesson_0 rfl (lv_at hl 0 rfl) ?_
  refine lv_iconst (v := 0) hx hb dX5_lesson_1 (by decide) ?_
  refine va_put (ci := 5) (v := .int 0) (ty := .int) (C := RX5) (T := TX5) (N := 20) hx hb hts hinX5 tyX5 tyX5_ok nmX5 hown hK hP hD hS 0 rfl rfl 0 (by decide) (hts (.fieldLink RX5 43 "TypingTutorModel" "thrown" "I") (List.mem_of_getElem? (i := 1) rfl)) (fun _ h9 => h9) rfl (by decide +kernel) rfl rfl (Nat.le_of_ble_eq_true rfl) dX5_lesson_2 (fun H locs hP hD hS => ?_)
  have hP : va_P D vwCl (zWM cI cJ cZ h 0 (n, L) ((zcb kt pt), (zcb km pm), (zcb kl pl)) mc (run, wc, nu, lc, le, af, tr, ms, cl, tm) (co, yn, yh, pa) ++ R) _ := hP
  have hD : va_D (zAb B) (zWM cI cJ cZ h 0 (n, L) ((zcb kt pt), (zcb km pm), (zcb kl pl)) mc (run, wc, nu, lc, le, af, tr, ms, cl, tm) (co, yn, yh, pa) ++ R) := hD
  refine lv_iload_n hx hb dX5_lesson_5 rfl (lv_at hl 1 rfl) ?_
  refine lv_if_lt (tgt := 35) hx hb dX5_lesson_6 (by decide) (fun c_1 => ?_) (fun c_1 => ?_)
  · skip
    have c_1 : k < 0 := (nI_ltI (a := k) (b := 0) (by omega) (by omega)).mp c_1
    exfalso; first | omega | (revert c_1; decide) | (exact absurd rfl c_1) | simp_all
  · skip
    have c_1 : ¬ k < 0 := fun hh => c_1 ((nI_ltI (a := k) (b := 0) (by omega) (by omega)).mpr hh)
    refine lv_iload_n hx hb dX5_lesson_9 rfl (lv_at hl 1 rfl) ?_
    refine lv_aload_n hx hb dX5_lesson_10 rfl (lv_at hl 0 rfl) ?_
    refine va_get (ci := 5) (v := .int (nI co)) (C := RX5) (T := TX5) (N := 20) hx hb hts hinX5 hown hK hP 0 rfl rfl 17 (by decide) (hts (.fieldLink RX5 145 "TypingTutorModel" "finished" "I") (List.mem_of_getElem? (i := 2) rfl)) (fun _ h9 => h9) rfl dX5_lesson_11 ?_
    refine lv_icmp_ge (tgt := 35) hx hb dX5_lesson_14 (by decide) (fun c_2 => ?_) (fun c_2 => ?_)
    · skip
      have c_2 : co ≤ k := (nI_leI (a := co) (b := k) (by omega) (by omega)).mp c_2
      exfalso; first | omega | (revert c_2; decide) | (exact absurd rfl c_2) | simp_all
    · skip
      have c_2 : ¬ co ≤ k := fun hh => c_2 ((nI_leI (a := co) (b := k) (by omega) (by omega)).mpr hh)
      refine lv_iload_n hx hb dX5_lesson_17 rfl (lv_at hl 2 rfl) ?_
      refine lv_if_lt (tgt := 35) hx hb dX5_lesson_18 (by decide) (fun c_3 => ?_) (fun c_3 => ?_)
      · skip
        exfalso; first | omega | (revert c_3; decide) | (exact absurd rfl c_3) | simp_all
      · skip
        refine lv_iload_n hx hb dX5_lesson_21 rfl (lv_at hl 2 rfl) ?_
        refine lv_iconst (v := 3) hx hb dX5_lesson_22 (by decide) ?_
        refine lv_icmp_gt (tgt := 35) hx hb dX5_lesson_23 (by decide) (fun c_4 => ?_) (fun c_4 => ?_)
        · skip
          exfalso; first | omega | (revert c_4; decide) | (exact absurd rfl c_4) | simp_all
        · skip
          refine lv_aload_n hx hb dX5_lesson_26 rfl (lv_at hl 0 rfl) ?_
          refine lv_iload_n hx hb dX5_lesson_27 rfl (lv_at hl 1 rfl) ?_
          refine lv_iload_n hx hb dX5_lesson_28 rfl (lv_at hl 2 rfl) ?_
          refine zci (zrV (As := [.int (nI k), .int 3]) (rest := []) ⟨hx, hb, hml, hown, hts⟩ (zV 0 hP hD hK hE hB hS rfl rfl) (c_X5_told_3 (k := k) (yl := yl) (yc := yc) (yt := yt) (hH) (hk) (hhn) (hh3)) (cwV 2 hts gX5_lesson_X5_told rfl rfl rfl hdv_X5_told ⟨Nat.le_of_ble_eq_true rfl, Nat.le_of_ble_eq_true rfl⟩) rfl rfl hl.1 rfl (lv_room (Nat.le_of_ble_eq_true rfl)) dX5_lesson_29 ⟨Nat.le_of_ble_eq_true rfl, Nat.le_of_ble_eq_true rfl⟩) hS (fun H locs hP hD hS => ?_)
          have hP : va_P D vwCl (zWM cI cJ cZ h 0 (n, L) ((zcb kt pt), (zcb km pm), (zcb kl pl)) mc (run, wc, nu, lc, le, af, tr, ms, cl, tm) (co, yn, yh, pa) ++ R) _ := hP
          have hD : va_D (zAb B) (zWM cI cJ cZ h 0 (n, L) ((zcb kt pt), (zcb km pm), (zcb kl pl)) mc (run, wc, nu, lc, le, af, tr, ms, cl, tm) (co, yn, yh, pa) ++ R) := hD
          refine lv_goto (tgt := 40) hx hb dX5_lesson_32 (by decide) ?_
          exact W.iret (v := (zsp yl yt k)) hx hb hr (fun t ht hW => ⟨⟨_, (), rfl, rfl, by rw [ht]; exact hP, hD⟩, hS.F ht⟩) hS.2.2 dX5_lesson_40

set_option maxHeartbeats 1000000 in
set_option maxRecDepth 100000 in
theorem c_X5_lesson_x {l : Launch} {B kr kp : Nat} {D : va_G} {cI cJ cZ : ClassId} {h : Nat → Nat} {R : va_W} {th : Int32} {n : Nat} {L : Nat → Int64} {kt : Nat → Int32} {km : Nat → Int32} {kl : Nat → Int32} {pt : Nat → Int32} {pm : Nat → Int32} {pl : Nat → Int32} {nu : Nat → Int32} {le : Nat → Int32} {af : Nat → Int32} {run : Bool} {wc : Nat} {lc : Nat} {tr : Nat} {cl : Nat} {tm : Nat} {ms : Nat} {co : Nat} {yn : Nat} {yh : Nat → Int32} {pa : Int32} {mc : Nat → Int32} {i : Int32} {j : Int32}   (h1 : ¬ (¬ i < 0 ∧ ¬ nI co ≤ i ∧ ¬ j < 0 ∧ j ≤ 3)) : Met l yX5_lesson wsX5_lesson ({ frames := 1, cells := 0, slots := 0, locals := 21 }) (zPc B kr kp D (zTy cI cJ cZ) (zWM cI cJ cZ h th (n, L) ((zcb kt pt), (zcb km pm), (zcb kl pl)) mc (run, wc, nu, lc, le, af, tr, ms, cl, tm) (co, yn, yh, pa) ++ R) [.ref (h 0), .int i, .int j]) (zQi B D (zWM cI cJ cZ h 1 (n, L) ((zcb kt pt), (zcb km pm), (zcb kl pl)) mc (run, wc, nu, lc, le, af, tr, ms, cl, tm) (co, yn, yh, pa) ++ R) 0) 0 0 (zAb B) := by
  refine Met.ofW (cc := cX5_lesson) (maxL := 3) (ret := (some .int)) (by decide) rfl ?_
  intro p e s m args below meth c s₁ B0 hml hv
  obtain ⟨rfl, hP, hD, hK, hE, hB⟩ := hv
  have hx := B0.exec
  have hb := B0.bytes
  have hr := B0.returns
  have hts := atoms_spec (ws := wsX5_lesson) B0.pre
  have hown : s.vm.findClass RX5 = some m.cls := findClass_of_methodNamed B0.named
  have hlocks := B0.notSynchronized
  have hA : ∀ q : Nat, s.heap.size ≤ q → zAb B q := fun q hq => Nat.le_trans hB hq
  have hS : va_S (zAb B) s.heap s.heap [] := va_S.rf
  have hl := lv_entry ([.ref (h 0), .int i, .int j]) (n := 3) (Nat.le_of_ble_eq_true rfl)
  rw [lg_entry_eq]
  generalize (lg_sl ([.ref (h 0), .int i, .int j]) ++ List.replicate (3 - (lg_sl ([.ref (h 0), .int i, .int j])).length) Slot.unset).toArray = ls at hl ⊢
  have hl : lv_has ls 3 [(0, .ref (h 0)), (1, .int i), (2, .int j)] := hl
  have hinX5 : ∀ w ∈ wsX50, w ∈ wsX5_lesson := fun _ h => List.mem_cons_of_mem _ (List.mem_append_right _ h)
  have hP : va_P D vwCl (zWM cI cJ cZ h th (n, L) ((zcb kt pt), (zcb km pm), (zcb kl pl)) mc (run, wc, nu, lc, le, af, tr, ms, cl, tm) (co, yn, yh, pa) ++ R) s.heap := hP
  have hD : va_D (zAb B) (zWM cI cJ cZ h th (n, L) ((zcb kt pt), (zcb km pm), (zcb kl pl)) mc (run, wc, nu, lc, le, af, tr, ms, cl, tm) (co, yn, yh, pa) ++ R) := hD
  refine lv_aload_n hx hb dX5_lesson_0 rfl (lv_at hl 0 rfl) ?_
  refine lv_iconst (v := 0) hx hb dX5_lesson_1 (by decide) ?_
  refine va_put (ci := 5) (v := .int 0) (ty := .int) (C := RX5) (T := TX5) (N := 20) hx hb hts hinX5 tyX5 tyX5_ok nmX5 hown hK hP hD hS 0 rfl rfl 0 (by decide) (hts (.fieldLink RX5 43 "TypingTutorModel" "thrown" "I") (List.mem_of_getElem? (i := 1) rfl)) (fun _ h9 => h9) rfl (by decide +kernel) rfl rfl (Nat.le_of_ble_eq_true rfl) dX5_lesson_2 (fun H locs hP hD hS => ?_)
  have hP : va_P D vwCl (zWM cI cJ cZ h 0 (n, L) ((zcb kt pt), (zcb km pm), (zcb kl pl)) mc (run, wc, nu, lc, le, af, tr, ms, cl, tm) (co, yn, yh, pa) ++ R) _ := hP
  have hD : va_D (zAb B) (zWM cI cJ cZ h 0 (n, L) ((zcb kt pt), (zcb km pm), (zcb kl pl)) mc (run, wc, nu, lc, le, af, tr, ms, cl, tm) (co, yn, yh, pa) ++ R) := hD
  refine lv_iload_n hx hb dX5_lesson_5 rfl (lv_at hl 1 rfl) ?_
  refine lv_if_lt (tgt := 35) hx hb dX5_lesson_6 (by decide) (fun c_1 => ?_) (fun c_1 => ?_)
  · skip
    refine lv_aload_n hx hb dX5_lesson_35 rfl (lv_at hl 0 rfl) ?_
    refine lv_iconst (v := 1) hx hb dX5_lesson_36 (by decide) ?_
    refine zci (zrV (As := [.int 1]) (rest := []) ⟨hx, hb, hml, hown, hts⟩ (zV 0 hP hD hK hE hB hS rfl rfl) (c_X5_fail  ) (cwV 1 hts gX5_lesson_X5_fail rfl rfl rfl hdv_X5_fail ⟨Nat.le_of_ble_eq_true rfl, Nat.le_of_ble_eq_true rfl⟩) rfl rfl hl.1 rfl (lv_room (Nat.le_of_ble_eq_true rfl)) dX5_lesson_37 ⟨Nat.le_of_ble_eq_true rfl, Nat.le_of_ble_eq_true rfl⟩) hS (fun H locs hP hD hS => ?_)
    have hP : va_P D vwCl (zWM cI cJ cZ h 1 (n, L) ((zcb kt pt), (zcb km pm), (zcb kl pl)) mc (run, wc, nu, lc, le, af, tr, ms, cl, tm) (co, yn, yh, pa) ++ R) _ := hP
    have hD : va_D (zAb B) (zWM cI cJ cZ h 1 (n, L) ((zcb kt pt), (zcb km pm), (zcb kl pl)) mc (run, wc, nu, lc, le, af, tr, ms, cl, tm) (co, yn, yh, pa) ++ R) := hD
    exact W.iret (v := 0) hx hb hr (fun t ht hW => ⟨⟨_, (), rfl, rfl, by rw [ht]; exact hP, hD⟩, hS.F ht⟩) hS.2.2 dX5_lesson_40
  · skip
    refine lv_iload_n hx hb dX5_lesson_9 rfl (lv_at hl 1 rfl) ?_
    refine lv_aload_n hx hb dX5_lesson_10 rfl (lv_at hl 0 rfl) ?_
    refine va_get (ci := 5) (v := .int (nI co)) (C := RX5) (T := TX5) (N := 20) hx hb hts hinX5 hown hK hP 0 rfl rfl 17 (by decide) (hts (.fieldLink RX5 145 "TypingTutorModel" "finished" "I") (List.mem_of_getElem? (i := 2) rfl)) (fun _ h9 => h9) rfl dX5_lesson_11 ?_
    refine lv_icmp_ge (tgt := 35) hx hb dX5_lesson_14 (by decide) (fun c_2 => ?_) (fun c_2 => ?_)
    · skip
      refine lv_aload_n hx hb dX5_lesson_35 rfl (lv_at hl 0 rfl) ?_
      refine lv_iconst (v := 1) hx hb dX5_lesson_36 (by decide) ?_
      refine zci (zrV (As := [.int 1]) (rest := []) ⟨hx, hb, hml, hown, hts⟩ (zV 0 hP hD hK hE hB hS rfl rfl) (c_X5_fail  ) (cwV 1 hts gX5_lesson_X5_fail rfl rfl rfl hdv_X5_fail ⟨Nat.le_of_ble_eq_true rfl, Nat.le_of_ble_eq_true rfl⟩) rfl rfl hl.1 rfl (lv_room (Nat.le_of_ble_eq_true rfl)) dX5_lesson_37 ⟨Nat.le_of_ble_eq_true rfl, Nat.le_of_ble_eq_true rfl⟩) hS (fun H locs hP hD hS => ?_)
      have hP : va_P D vwCl (zWM cI cJ cZ h 1 (n, L) ((zcb kt pt), (zcb km pm), (zcb kl pl)) mc (run, wc, nu, lc, le, af, tr, ms, cl, tm) (co, yn, yh, pa) ++ R) _ := hP
      have hD : va_D (zAb B) (zWM cI cJ cZ h 1 (n, L) ((zcb kt pt), (zcb km pm), (zcb kl pl)) mc (run, wc, nu, lc, le, af, tr, ms, cl, tm) (co, yn, yh, pa) ++ R) := hD
      exact W.iret (v := 0) hx hb hr (fun t ht hW => ⟨⟨_, (), rfl, rfl, by rw [ht]; exact hP, hD⟩, hS.F ht⟩) hS.2.2 dX5_lesson_40
    · skip
      refine lv_iload_n hx hb dX5_lesson_17 rfl (lv_at hl 2 rfl) ?_
      refine lv_if_lt (tgt := 35) hx hb dX5_lesson_18 (by decide) (fun c_3 => ?_) (fun c_3 => ?_)
      · skip
        refine lv_aload_n hx hb dX5_lesson_35 rfl (lv_at hl 0 rfl) ?_
        refine lv_iconst (v := 1) hx hb dX5_lesson_36 (by decide) ?_
        refine zci (zrV (As := [.int 1]) (rest := []) ⟨hx, hb, hml, hown, hts⟩ (zV 0 hP hD hK hE hB hS rfl rfl) (c_X5_fail  ) (cwV 1 hts gX5_lesson_X5_fail rfl rfl rfl hdv_X5_fail ⟨Nat.le_of_ble_eq_true rfl, Nat.le_of_ble_eq_true rfl⟩) rfl rfl hl.1 rfl (lv_room (Nat.le_of_ble_eq_true rfl)) dX5_lesson_37 ⟨Nat.le_of_ble_eq_true rfl, Nat.le_of_ble_eq_true rfl⟩) hS (fun H locs hP hD hS => ?_)
        have hP : va_P D vwCl (zWM cI cJ cZ h 1 (n, L) ((zcb kt pt), (zcb km pm), (zcb kl pl)) mc (run, wc, nu, lc, le, af, tr, ms, cl, tm) (co, yn, yh, pa) ++ R) _ := hP
        have hD : va_D (zAb B) (zWM cI cJ cZ h 1 (n, L) ((zcb kt pt), (zcb km pm), (zcb kl pl)) mc (run, wc, nu, lc, le, af, tr, ms, cl, tm) (co, yn, yh, pa) ++ R) := hD
        exact W.iret (v := 0) hx hb hr (fun t ht hW => ⟨⟨_, (), rfl, rfl, by rw [ht]; exact hP, hD⟩, hS.F ht⟩) hS.2.2 dX5_lesson_40
      · skip
        refine lv_iload_n hx hb dX5_lesson_21 rfl (lv_at hl 2 rfl) ?_
        refine lv_iconst (v := 3) hx hb dX5_lesson_22 (by decide) ?_
        refine lv_icmp_gt (tgt := 35) hx hb dX5_lesson_23 (by decide) (fun c_4 => ?_) (fun c_4 => ?_)
        · skip
          refine lv_aload_n hx hb dX5_lesson_35 rfl (lv_at hl 0 rfl) ?_
          refine lv_iconst (v := 1) hx hb dX5_lesson_36 (by decide) ?_
          refine zci (zrV (As := [.int 1]) (rest := []) ⟨hx, hb, hml, hown, hts⟩ (zV 0 hP hD hK hE hB hS rfl rfl) (c_X5_fail  ) (cwV 1 hts gX5_lesson_X5_fail rfl rfl rfl hdv_X5_fail ⟨Nat.le_of_ble_eq_true rfl, Nat.le_of_ble_eq_true rfl⟩) rfl rfl hl.1 rfl (lv_room (Nat.le_of_ble_eq_true rfl)) dX5_lesson_37 ⟨Nat.le_of_ble_eq_true rfl, Nat.le_of_ble_eq_true rfl⟩) hS (fun H locs hP hD hS => ?_)
          have hP : va_P D vwCl (zWM cI cJ cZ h 1 (n, L) ((zcb kt pt), (zcb km pm), (zcb kl pl)) mc (run, wc, nu, lc, le, af, tr, ms, cl, tm) (co, yn, yh, pa) ++ R) _ := hP
          have hD : va_D (zAb B) (zWM cI cJ cZ h 1 (n, L) ((zcb kt pt), (zcb km pm), (zcb kl pl)) mc (run, wc, nu, lc, le, af, tr, ms, cl, tm) (co, yn, yh, pa) ++ R) := hD
          exact W.iret (v := 0) hx hb hr (fun t ht hW => ⟨⟨_, (), rfl, rfl, by rw [ht]; exact hP, hD⟩, hS.F ht⟩) hS.2.2 dX5_lesson_40
        · skip
          exact absurd ⟨c_1, c_2, c_3, Int32.not_lt.mp c_4⟩ h1

set_option maxHeartbeats 1000000 in
set_option maxRecDepth 100000 in
theorem c_X5_greatest {l : Launch} {B kr kp : Nat} {D : va_G} {cI cJ cZ : ClassId} {h : Nat → Nat} {R : va_W} {th : Int32} {n : Nat} {L : Nat → Int64} {kt : Nat → Int32} {km : Nat → Int32} {kl : Nat → Int32} {pt : Nat → Int32} {pm : Nat → Int32} {pl : Nat → Int32} {nu : Nat → Int32} {le : Nat → Int32} {af : Nat → Int32} {run : Bool} {wc : Nat} {lc : Nat} {tr : Nat} {cl : Nat} {tm : Nat} {ms : Nat} {co : Nat} {yn : Nat} {yh : Nat → Int32} {pa : Int32} {mc : Nat → Int32} {a : Nat} {yl : Nat → Int32} {yc : Nat → Int32} {yt : Nat → Int32}  (hH : zHi yh yl yc yt co) (hk : a + 2 < co) (hhn : 3 * co ≤ yn) (hh3 : yn ≤ 1530) : Met l yX5_greatest wsX5_greatest ({ frames := 1, cells := 0, slots := 0, locals := 24 }) (zPc B kr kp D (zTy cI cJ cZ) (zWM cI cJ cZ h th (n, L) ((zcb kt pt), (zcb km pm), (zcb kl pl)) mc (run, wc, nu, lc, le, af, tr, ms, cl, tm) (co, yn, yh, pa) ++ R) [.ref (h 0), .int (nI a)]) (zQi B D (zWM cI cJ cZ h th (n, L) ((zcb kt pt), (zcb km pm), (zcb kl pl)) mc (run, wc, nu, lc, le, af, tr, ms, cl, tm) (co, yn, yh, pa) ++ R) (zg3 yl yt a)) 0 0 (zAb B) := by
  refine Met.ofW (cc := cX5_greatest) (maxL := 2) (ret := (some .int)) (by decide) rfl ?_
  intro p e s m args below meth c s₁ B0 hml hv
  obtain ⟨rfl, hP, hD, hK, hE, hB⟩ := hv
  have hx := B0.exec
  have hb := B0.bytes
  have hr := B0.returns
  have hts := atoms_spec (ws := wsX5_greatest) B0.pre
  have hown : s.vm.findClass RX5 = some m.cls := findClass_of_methodNamed B0.named
  have hlocks := B0.notSynchronized
  have hA : ∀ q : Nat, s.heap.size ≤ q → zAb B q := fun q hq => Nat.le_trans hB hq
  have hS : va_S (zAb B) s.heap s.heap [] := va_S.rf
  have hl := lv_entry ([.ref (h 0), .int (nI a)]) (n := 2) (Nat.le_of_ble_eq_true rfl)
  rw [lg_entry_eq]
  generalize (lg_sl ([.ref (h 0), .int (nI a)]) ++ List.replicate (2 - (lg_sl ([.ref (h 0), .int (nI a)])).length) Slot.unset).toArray = ls at hl ⊢
  have hl : lv_has ls 2 [(0, .ref (h 0)), (1, .int (nI a))] := hl
  have hP : va_P D vwCl (zWM cI cJ cZ h th (n, L) ((zcb kt pt), (zcb km pm), (zcb kl pl)) mc (run, wc, nu, lc, le, af, tr, ms, cl, tm) (co, yn, yh, pa) ++ R) s.heap := hP
  have hD : va_D (zAb B) (zWM cI cJ cZ h th (n, L) ((zcb kt pt), (zcb km pm), (zcb kl pl)) mc (run, wc, nu, lc, le, af, tr, ms, cl, tm) (co, yn, yh, pa) ++ R) := hD
  refine lv_aload_n hx hb dX5_greatest_0 rfl (lv_at hl 0 rfl) ?_
  refine lv_iload_n hx hb dX5_greatest_1 rfl (lv_at hl 1 rfl) ?_
  refine lv_iconst (v := 3) hx hb dX5_greatest_2 (by decide) ?_
  refine zci (zrV (As := [.int (nI a), .int 3]) (rest := []) ⟨hx, hb, hml, hown, hts⟩ (zV 0 hP hD hK hE hB hS rfl rfl) (c_X5_told_3 (k := a) (yl := yl) (yc := yc) (yt := yt) (hH) (by omega) (hhn) (hh3)) (cwV 2 hts gX5_greatest_X5_told rfl rfl rfl hdv_X5_told ⟨Nat.le_of_ble_eq_true rfl, Nat.le_of_ble_eq_true rfl⟩) rfl rfl hl.1 rfl (lv_room (Nat.le_of_ble_eq_true rfl)) dX5_greatest_3 ⟨Nat.le_of_ble_eq_true rfl, Nat.le_of_ble_eq_true rfl⟩) hS (fun H locs hP hD hS => ?_)
  have hP : va_P D vwCl (zWM cI cJ cZ h th (n, L) ((zcb kt pt), (zcb km pm), (zcb kl pl)) mc (run, wc, nu, lc, le, af, tr, ms, cl, tm) (co, yn, yh, pa) ++ R) _ := hP
  have hD : va_D (zAb B) (zWM cI cJ cZ h th (n, L) ((zcb kt pt), (zcb km pm), (zcb kl pl)) mc (run, wc, nu, lc, le, af, tr, ms, cl, tm) (co, yn, yh, pa) ++ R) := hD
  refine lv_aload_n hx hb dX5_greatest_6 rfl (lv_at hl 0 rfl) ?_
  refine lv_iload_n hx hb dX5_greatest_7 rfl (lv_at hl 1 rfl) ?_
  refine lv_iconst (v := 1) hx hb dX5_greatest_8 (by decide) ?_
  refine lv_iadd hx hb dX5_greatest_9 ?_
  refine lv_topi (fun v_1 ev_1 => ?_)
  obtain rfl : v_1 = (nI (a + 1)) := ev_1.trans (nI_add a 1)
  refine lv_iconst (v := 3) hx hb dX5_greatest_10 (by decide) ?_
  refine zci (zrV (As := [.int (nI (a + 1)), .int 3]) (rest := [.int (zsp yl yt a)]) ⟨hx, hb, hml, hown, hts⟩ (zV 0 hP hD hK hE hB hS rfl rfl) (c_X5_told_3 (k := (a + 1)) (yl := yl) (yc := yc) (yt := yt) (hH) (by omega) (hhn) (hh3)) (cwV 2 hts gX5_greatest_X5_told rfl rfl rfl hdv_X5_told ⟨Nat.le_of_ble_eq_true rfl, Nat.le_of_ble_eq_true rfl⟩) rfl rfl hl.1 rfl (lv_room (Nat.le_of_ble_eq_true rfl)) dX5_greatest_11 ⟨Nat.le_of_ble_eq_true rfl, Nat.le_of_ble_eq_true rfl⟩) hS (fun H locs hP hD hS => ?_)
  have hP : va_P D vwCl (zWM cI cJ cZ h th (n, L) ((zcb kt pt), (zcb km pm), (zcb kl pl)) mc (run, wc, nu, lc, le, af, tr, ms, cl, tm) (co, yn, yh, pa) ++ R) _ := hP
  have hD : va_D (zAb B) (zWM cI cJ cZ h th (n, L) ((zcb kt pt), (zcb km pm), (zcb kl pl)) mc (run, wc, nu, lc, le, af, tr, ms, cl, tm) (co, yn, yh, pa) ++ R) := hD
  refine lv_aload_n hx hb dX5_greatest_14 rfl (lv_at hl 0 rfl) ?_
  refine lv_iload_n hx hb dX5_greatest_15 rfl (lv_at hl 1 rfl) ?_
  refine lv_iconst (v := 2) hx hb dX5_greatest_16 (by decide) ?_
  refine lv_iadd hx hb dX5_greatest_17 ?_
  refine lv_topi (fun v_2 ev_2 => ?_)
  obtain rfl : v_2 = (nI (a + 2)) := ev_2.trans (nI_add a 2)
  refine lv_iconst (v := 3) hx hb dX5_greatest_18 (by decide) ?_
  refine zci (zrV (As := [.int (nI (a + 2)), .int 3]) (rest := [.int (zsp yl yt (a + 1)), .int (zsp yl yt a)]) ⟨hx, hb, hml, hown, hts⟩ (zV 0 hP hD hK hE hB hS rfl rfl) (c_X5_told_3 (k := (a + 2)) (yl := yl) (yc := yc) (yt := yt) (hH) (by omega) (hhn) (hh3)) (cwV 2 hts gX5_greatest_X5_told rfl rfl rfl hdv_X5_told ⟨Nat.le_of_ble_eq_true rfl, Nat.le_of_ble_eq_true rfl⟩) rfl rfl hl.1 rfl (lv_room (Nat.le_of_ble_eq_true rfl)) dX5_greatest_19 ⟨Nat.le_of_ble_eq_true rfl, Nat.le_of_ble_eq_true rfl⟩) hS (fun H locs hP hD hS => ?_)
  have hP : va_P D vwCl (zWM cI cJ cZ h th (n, L) ((zcb kt pt), (zcb km pm), (zcb kl pl)) mc (run, wc, nu, lc, le, af, tr, ms, cl, tm) (co, yn, yh, pa) ++ R) _ := hP
  have hD : va_D (zAb B) (zWM cI cJ cZ h th (n, L) ((zcb kt pt), (zcb km pm), (zcb kl pl)) mc (run, wc, nu, lc, le, af, tr, ms, cl, tm) (co, yn, yh, pa) ++ R) := hD
  refine va_mmax hx hb (hml.trans hl.1.symm) hown (hts (.methodLink RX5 135 Lib.Math.max.name) (List.mem_of_getElem? (i := 1) rfl)) (hts (.static Lib.Math.max.name) (List.mem_of_getElem? (i := 2) rfl)) (hts (.initialized "java/lang/Math") (List.mem_of_getElem? (i := 3) rfl)) (hts (.code Lib.Math.max.name Lib.Math.max.code 2 (some .int)) (List.mem_of_getElem? (i := 4) rfl)) (Nat.le_of_ble_eq_true rfl) (Nat.le_of_ble_eq_true rfl) (Nat.zero_le _) (Nat.zero_le _) dX5_greatest_22 ?_
  refine va_mmax hx hb (hml.trans hl.1.symm) hown (hts (.methodLink RX5 135 Lib.Math.max.name) (List.mem_of_getElem? (i := 1) rfl)) (hts (.static Lib.Math.max.name) (List.mem_of_getElem? (i := 2) rfl)) (hts (.initialized "java/lang/Math") (List.mem_of_getElem? (i := 3) rfl)) (hts (.code Lib.Math.max.name Lib.Math.max.code 2 (some .int)) (List.mem_of_getElem? (i := 4) rfl)) (Nat.le_of_ble_eq_true rfl) (Nat.le_of_ble_eq_true rfl) (Nat.zero_le _) (Nat.zero_le _) dX5_greatest_25 ?_
  exact W.iret (v := (if (zsp yl yt a) < (if (zsp yl yt (a + 1)) < (zsp yl yt (a + 2)) then (zsp yl yt (a + 2)) else (zsp yl yt (a + 1))) then (if (zsp yl yt (a + 1)) < (zsp yl yt (a + 2)) then (zsp yl yt (a + 2)) else (zsp yl yt (a + 1))) else (zsp yl yt a))) hx hb hr (fun t ht hW => ⟨⟨_, (), rfl, rfl, by rw [ht]; exact hP, hD⟩, hS.F ht⟩) hS.2.2 dX5_greatest_28

set_option maxHeartbeats 1000000 in
set_option maxRecDepth 100000 in
theorem c_X5_isPlateau {l : Launch} {B kr kp : Nat} {D : va_G} {cI cJ cZ : ClassId} {h : Nat → Nat} {R : va_W} {th : Int32} {n : Nat} {L : Nat → Int64} {kt : Nat → Int32} {km : Nat → Int32} {kl : Nat → Int32} {pt : Nat → Int32} {pm : Nat → Int32} {pl : Nat → Int32} {nu : Nat → Int32} {le : Nat → Int32} {af : Nat → Int32} {run : Bool} {wc : Nat} {lc : Nat} {tr : Nat} {cl : Nat} {tm : Nat} {ms : Nat} {co : Nat} {yn : Nat} {yh : Nat → Int32} {pa : Int32} {mc : Nat → Int32}  {yl : Nat → Int32} {yc : Nat → Int32} {yt : Nat → Int32}  (hH : zHi yh yl yc yt co) (hhn : 3 * co ≤ yn) (hh3 : yn ≤ 1530) (hsp : ∀ a, a + 3 ≤ co → ∀ k, a ≤ k → k < a + 3 → 0 ≤ zsp yl yt k) : Met l yX5_isPlateau wsX5_isPlateau ({ frames := 2, cells := 0, slots := 0, locals := 45 }) (zPc B kr kp D (zTy cI cJ cZ) (zWM cI cJ cZ h th (n, L) ((zcb kt pt), (zcb km pm), (zcb kl pl)) mc (run, wc, nu, lc, le, af, tr, ms, cl, tm) (co, yn, yh, pa) ++ R) [.ref (h 0)]) (zQi B D (zWM cI cJ cZ h 0 (n, L) ((zcb kt pt), (zcb km pm), (zcb kl pl)) mc (run, wc, nu, lc, le, af, tr, ms, cl, tm) (co, yn, yh, pa) ++ R) (zb (zpl yl yt co))) 0 0 (zAb B) := by
  refine Met.ofW (cc := cX5_isPlateau) (maxL := 1) (ret := (some .boolean)) (by decide) rfl ?_
  intro p e s m args below meth c s₁ B0 hml hv
  obtain ⟨rfl, hP, hD, hK, hE, hB⟩ := hv
  have hx := B0.exec
  have hb := B0.bytes
  have hr := B0.returns
  have hts := atoms_spec (ws := wsX5_isPlateau) B0.pre
  have hown : s.vm.findClass RX5 = some m.cls := findClass_of_methodNamed B0.named
  have hlocks := B0.notSynchronized
  have hA : ∀ q : Nat, s.heap.size ≤ q → zAb B q := fun q hq => Nat.le_trans hB hq
  have hS : va_S (zAb B) s.heap s.heap [] := va_S.rf
  have hl := lv_entry ([.ref (h 0)]) (n := 1) (Nat.le_of_ble_eq_true rfl)
  rw [lg_entry_eq]
  generalize (lg_sl ([.ref (h 0)]) ++ List.replicate (1 - (lg_sl ([.ref (h 0)])).length) Slot.unset).toArray = ls at hl ⊢
  have hl : lv_has ls 1 [(0, .ref (h 0))] := hl
  have hinX5 : ∀ w ∈ wsX50, w ∈ wsX5_isPlateau := fun _ h => List.mem_cons_of_mem _ (List.mem_append_right _ h)
  have hP : va_P D vwCl (zWM cI cJ cZ h th (n, L) ((zcb kt pt), (zcb km pm), (zcb kl pl)) mc (run, wc, nu, lc, le, af, tr, ms, cl, tm) (co, yn, yh, pa) ++ R) s.heap := hP
  have hD : va_D (zAb B) (zWM cI cJ cZ h th (n, L) ((zcb kt pt), (zcb km pm), (zcb kl pl)) mc (run, wc, nu, lc, le, af, tr, ms, cl, tm) (co, yn, yh, pa) ++ R) := hD
  refine lv_aload_n hx hb dX5_isPlateau_0 rfl (lv_at hl 0 rfl) ?_
  refine lv_iconst (v := 0) hx hb dX5_isPlateau_1 (by decide) ?_
  refine va_put (ci := 5) (v := .int 0) (ty := .int) (C := RX5) (T := TX5) (N := 20) hx hb hts hinX5 tyX5 tyX5_ok nmX5 hown hK hP hD hS 0 rfl rfl 0 (by decide) (hts (.fieldLink RX5 43 "TypingTutorModel" "thrown" "I") (List.mem_of_getElem? (i := 1) rfl)) (fun _ h9 => h9) rfl (by decide +kernel) rfl rfl (Nat.le_of_ble_eq_true rfl) dX5_isPlateau_2 (fun H locs hP hD hS => ?_)
  have hP : va_P D vwCl (zWM cI cJ cZ h 0 (n, L) ((zcb kt pt), (zcb km pm), (zcb kl pl)) mc (run, wc, nu, lc, le, af, tr, ms, cl, tm) (co, yn, yh, pa) ++ R) _ := hP
  have hD : va_D (zAb B) (zWM cI cJ cZ h 0 (n, L) ((zcb kt pt), (zcb km pm), (zcb kl pl)) mc (run, wc, nu, lc, le, af, tr, ms, cl, tm) (co, yn, yh, pa) ++ R) := hD
  refine lv_aload_n hx hb dX5_isPlateau_5 rfl (lv_at hl 0 rfl) ?_
  refine va_get (ci := 5) (v := .int (nI co)) (C := RX5) (T := TX5) (N := 20) hx hb hts hinX5 hown hK hP 0 rfl rfl 17 (by decide) (hts (.fieldLink RX5 145 "TypingTutorModel" "finished" "I") (List.mem_of_getElem? (i := 2) rfl)) (fun _ h9 => h9) rfl dX5_isPlateau_6 ?_
  refine lv_bipush (v := 6) hx hb dX5_isPlateau_9 (by decide) ?_
  refine lv_icmp_lt (tgt := 42) hx hb dX5_isPlateau_11 (by decide) (fun c_1 => ?_) (fun c_1 => ?_)
  · skip
    have c_1 : co < 6 := (nI_ltI (a := co) (b := 6) (by omega) (by omega)).mp c_1
    refine lv_iconst (v := 0) hx hb dX5_isPlateau_42 (by decide) ?_
    exact W.zret (v := 0) hx hb hr rfl (fun t ht hW => ⟨⟨_, (), rfl, zb_f (by rw [zpl, decide_eq_false (by omega), Bool.false_and]), by rw [ht]; exact hP, hD⟩, hS.F ht⟩) hS.2.2 dX5_isPlateau_43
  · skip
    have c_1 : ¬ co < 6 := fun hh => c_1 ((nI_ltI (a := co) (b := 6) (by omega) (by omega)).mpr hh)
    refine lv_aload_n hx hb dX5_isPlateau_14 rfl (lv_at hl 0 rfl) ?_
    refine lv_aload_n hx hb dX5_isPlateau_15 rfl (lv_at hl 0 rfl) ?_
    refine va_get (ci := 5) (v := .int (nI co)) (C := RX5) (T := TX5) (N := 20) hx hb hts hinX5 hown hK hP 0 rfl rfl 17 (by decide) (hts (.fieldLink RX5 145 "TypingTutorModel" "finished" "I") (List.mem_of_getElem? (i := 2) rfl)) (fun _ h9 => h9) rfl dX5_isPlateau_16 ?_
    refine lv_iconst (v := 3) hx hb dX5_isPlateau_19 (by decide) ?_
    refine lv_isub hx hb dX5_isPlateau_20 ?_
    refine lv_topi (fun v_2 ev_2 => ?_)
    obtain rfl : v_2 = (nI (co - 3)) := ev_2.trans (pk_sub (a := co) (b := 3) (by omega))
    refine zci (zrV (As := [.int (nI (co - 3))]) (rest := []) ⟨hx, hb, hml, hown, hts⟩ (zV 0 hP hD hK hE hB hS rfl rfl) (c_X5_greatest (a := (co - 3)) (yl := yl) (yc := yc) (yt := yt) (hH) (by omega) (hhn) (hh3)) (cwV 1 hts gX5_isPlateau_X5_greatest rfl rfl rfl hdv_X5_greatest ⟨Nat.le_of_ble_eq_true rfl, Nat.le_of_ble_eq_true rfl⟩) rfl rfl hl.1 rfl (lv_room (Nat.le_of_ble_eq_true rfl)) dX5_isPlateau_21 ⟨Nat.le_of_ble_eq_true rfl, Nat.le_of_ble_eq_true rfl⟩) hS (fun H locs hP hD hS => ?_)
    have hP : va_P D vwCl (zWM cI cJ cZ h 0 (n, L) ((zcb kt pt), (zcb km pm), (zcb kl pl)) mc (run, wc, nu, lc, le, af, tr, ms, cl, tm) (co, yn, yh, pa) ++ R) _ := hP
    have hD : va_D (zAb B) (zWM cI cJ cZ h 0 (n, L) ((zcb kt pt), (zcb km pm), (zcb kl pl)) mc (run, wc, nu, lc, le, af, tr, ms, cl, tm) (co, yn, yh, pa) ++ R) := hD
    refine lv_aload_n hx hb dX5_isPlateau_24 rfl (lv_at hl 0 rfl) ?_
    refine lv_aload_n hx hb dX5_isPlateau_25 rfl (lv_at hl 0 rfl) ?_
    refine va_get (ci := 5) (v := .int (nI co)) (C := RX5) (T := TX5) (N := 20) hx hb hts hinX5 hown hK hP 0 rfl rfl 17 (by decide) (hts (.fieldLink RX5 145 "TypingTutorModel" "finished" "I") (List.mem_of_getElem? (i := 2) rfl)) (fun _ h9 => h9) rfl dX5_isPlateau_26 ?_
    refine lv_bipush (v := 6) hx hb dX5_isPlateau_29 (by decide) ?_
    refine lv_isub hx hb dX5_isPlateau_31 ?_
    refine lv_topi (fun v_3 ev_3 => ?_)
    obtain rfl : v_3 = (nI (co - 6)) := ev_3.trans (pk_sub (a := co) (b := 6) (by omega))
    refine zci (zrV (As := [.int (nI (co - 6))]) (rest := [.int (zg3 yl yt (co - 3))]) ⟨hx, hb, hml, hown, hts⟩ (zV 0 hP hD hK hE hB hS rfl rfl) (c_X5_greatest (a := (co - 6)) (yl := yl) (yc := yc) (yt := yt) (hH) (by omega) (hhn) (hh3)) (cwV 1 hts gX5_isPlateau_X5_greatest rfl rfl rfl hdv_X5_greatest ⟨Nat.le_of_ble_eq_true rfl, Nat.le_of_ble_eq_true rfl⟩) rfl rfl hl.1 rfl (lv_room (Nat.le_of_ble_eq_true rfl)) dX5_isPlateau_32 ⟨Nat.le_of_ble_eq_true rfl, Nat.le_of_ble_eq_true rfl⟩) hS (fun H locs hP hD hS => ?_)
    have hP : va_P D vwCl (zWM cI cJ cZ h 0 (n, L) ((zcb kt pt), (zcb km pm), (zcb kl pl)) mc (run, wc, nu, lc, le, af, tr, ms, cl, tm) (co, yn, yh, pa) ++ R) _ := hP
    have hD : va_D (zAb B) (zWM cI cJ cZ h 0 (n, L) ((zcb kt pt), (zcb km pm), (zcb kl pl)) mc (run, wc, nu, lc, le, af, tr, ms, cl, tm) (co, yn, yh, pa) ++ R) := hD
    refine lv_icmp_gt (tgt := 42) hx hb dX5_isPlateau_35 (by decide) (fun c_4 => ?_) (fun c_4 => ?_)
    · skip
      refine lv_iconst (v := 0) hx hb dX5_isPlateau_42 (by decide) ?_
      exact W.zret (v := 0) hx hb hr rfl (fun t ht hW => ⟨⟨_, (), rfl, zb_f (by have e3 : co - (co - 3) = 3 := (by omega); have e6 : co - 3 - (co - 6) = 3 := (by omega); have h9 := c_4; rw [← zg3_eq (hsp (co - 3) (by omega)), ← zg3_eq (hsp (co - 6) (by omega))] at h9; rw [zpl, e3, e6, decide_eq_false (Int32.not_le.mpr h9), Bool.and_false]), by rw [ht]; exact hP, hD⟩, hS.F ht⟩) hS.2.2 dX5_isPlateau_43
    · skip
      refine lv_iconst (v := 1) hx hb dX5_isPlateau_38 (by decide) ?_
      refine lv_goto (tgt := 43) hx hb dX5_isPlateau_39 (by decide) ?_
      exact W.zret (v := 1) hx hb hr rfl (fun t ht hW => ⟨⟨_, (), rfl, zb_t (by have e3 : co - (co - 3) = 3 := (by omega); have e6 : co - 3 - (co - 6) = 3 := (by omega); have h9 := c_4; rw [← zg3_eq (hsp (co - 3) (by omega)), ← zg3_eq (hsp (co - 6) (by omega))] at h9; rw [zpl, e3, e6, decide_eq_true (show 6 ≤ co by omega), decide_eq_true (Int32.not_lt.mp h9)]; rfl), by rw [ht]; exact hP, hD⟩, hS.F ht⟩) hS.2.2 dX5_isPlateau_43

set_option maxHeartbeats 1000000 in
set_option maxRecDepth 100000 in
theorem c_X5_weakest {l : Launch} {B kr kp : Nat} {D : va_G} {cI cJ cZ : ClassId} {h : Nat → Nat} {R : va_W} {th : Int32} {n : Nat} {L : Nat → Int64} {kt : Nat → Int32} {km : Nat → Int32} {kl : Nat → Int32} {pt : Nat → Int32} {pm : Nat → Int32} {pl : Nat → Int32} {nu : Nat → Int32} {le : Nat → Int32} {af : Nat → Int32} {run : Bool} {wc : Nat} {lc : Nat} {tr : Nat} {cl : Nat} {tm : Nat} {ms : Nat} {co : Nat} {yn : Nat} {yh : Nat → Int32} {pa : Int32} {mc : Nat → Int32}     : Met l yX5_weakest wsX5_weakest ({ frames := 2, cells := 0, slots := 0, locals := 44 }) (zPc B kr kp D (zTy cI cJ cZ) (zWM cI cJ cZ h th (n, L) ((zcb kt pt), (zcb km pm), (zcb kl pl)) mc (run, wc, nu, lc, le, af, tr, ms, cl, tm) (co, yn, yh, pa) ++ R) [.ref (h 0)]) (zQi B D (zWM cI cJ cZ h 0 (n, L) ((zcb kt pt), (zcb km pm), (zcb kl pl)) mc (run, wc, nu, lc, le, af, tr, ms, cl, tm) (co, yn, yh, pa) ++ R) (zws pt pl 676)) 0 0 (zAb B) := by
  refine Met.ofW (cc := cX5_weakest) (maxL := 3) (ret := (some .int)) (by decide) rfl ?_
  intro p e s m args below meth c s₁ B0 hml hv
  obtain ⟨rfl, hP, hD, hK, hE, hB⟩ := hv
  have hx := B0.exec
  have hb := B0.bytes
  have hr := B0.returns
  have hts := atoms_spec (ws := wsX5_weakest) B0.pre
  have hown : s.vm.findClass RX5 = some m.cls := findClass_of_methodNamed B0.named
  have hlocks := B0.notSynchronized
  have hA : ∀ q : Nat, s.heap.size ≤ q → zAb B q := fun q hq => Nat.le_trans hB hq
  have hS : va_S (zAb B) s.heap s.heap [] := va_S.rf
  have hl := lv_entry ([.ref (h 0)]) (n := 3) (Nat.le_of_ble_eq_true rfl)
  rw [lg_entry_eq]
  generalize (lg_sl ([.ref (h 0)]) ++ List.replicate (3 - (lg_sl ([.ref (h 0)])).length) Slot.unset).toArray = ls at hl ⊢
  have hl : lv_has ls 3 [(0, .ref (h 0))] := hl
  have hinX5 : ∀ w ∈ wsX50, w ∈ wsX5_weakest := fun _ h => List.mem_cons_of_mem _ (List.mem_append_right _ h)
  have hP : va_P D vwCl (zWM cI cJ cZ h th (n, L) ((zcb kt pt), (zcb km pm), (zcb kl pl)) mc (run, wc, nu, lc, le, af, tr, ms, cl, tm) (co, yn, yh, pa) ++ R) s.heap := hP
  have hD : va_D (zAb B) (zWM cI cJ cZ h th (n, L) ((zcb kt pt), (zcb km pm), (zcb kl pl)) mc (run, wc, nu, lc, le, af, tr, ms, cl, tm) (co, yn, yh, pa) ++ R) := hD
  refine lv_aload_n hx hb dX5_weakest_0 rfl (lv_at hl 0 rfl) ?_
  refine lv_iconst (v := 0) hx hb dX5_weakest_1 (by decide) ?_
  refine va_put (ci := 5) (v := .int 0) (ty := .int) (C := RX5) (T := TX5) (N := 20) hx hb hts hinX5 tyX5 tyX5_ok nmX5 hown hK hP hD hS 0 rfl rfl 0 (by decide) (hts (.fieldLink RX5 43 "TypingTutorModel" "thrown" "I") (List.mem_of_getElem? (i := 1) rfl)) (fun _ h9 => h9) rfl (by decide +kernel) rfl rfl (Nat.le_of_ble_eq_true rfl) dX5_weakest_2 (fun H locs hP hD hS => ?_)
  have hP : va_P D vwCl (zWM cI cJ cZ h 0 (n, L) ((zcb kt pt), (zcb km pm), (zcb kl pl)) mc (run, wc, nu, lc, le, af, tr, ms, cl, tm) (co, yn, yh, pa) ++ R) _ := hP
  have hD : va_D (zAb B) (zWM cI cJ cZ h 0 (n, L) ((zcb kt pt), (zcb km pm), (zcb kl pl)) mc (run, wc, nu, lc, le, af, tr, ms, cl, tm) (co, yn, yh, pa) ++ R) := hD
  refine lv_iconst (v := (-1)) hx hb dX5_weakest_5 (by decide) ?_
  refine lv_istore_n (lv' := [(1, .int (-1)), (0, .ref (h 0))]) hx hb dX5_weakest_6 rfl hl (by decide) rfl (fun ls hl => ?_)
  refine lv_iconst (v := 0) hx hb dX5_weakest_7 (by decide) ?_
  refine lv_istore_n (lv' := [(2, .int 0), (1, .int (-1)), (0, .ref (h 0))]) hx hb dX5_weakest_8 rfl hl (by decide) rfl (fun ls hl => ?_)
  refine zloop (σ := (Nat) × (Int32)) (nL := 3) (fun x9 => (zWM cI cJ cZ h 0 (n, L) ((zcb kt pt), (zcb km pm), (zcb kl pl)) mc (run, wc, nu, lc, le, af, tr, ms, cl, tm) (co, yn, yh, pa) ++ R)) (fun x9 => [(2, .int (nI x9.1)), (1, .int x9.2), (0, .ref (h 0))]) (fun x9 => []) (fun x9 => (x9.1 ≤ 676) ∧ x9.2 = zws pt pl x9.1) (fun x9 => 676 - x9.1) ?_ (0, -1) (⟨by omega, rfl⟩) _ _ _ hP hD hS (lv_sub hl [0, 1, 2] rfl)
  rintro ⟨j, z⟩ hI ih H locs ls hP hD hS hl
  try dsimp only at hI ih hP hD hS hl ⊢
  obtain ⟨hI, rfl⟩ := hI
  refine lv_iload_n hx hb dX5_weakest_9 rfl (lv_at hl 0 rfl) ?_
  refine lv_sipush (v := 676) hx hb dX5_weakest_10 (by decide) ?_
  refine lv_icmp_ge (tgt := 71) hx hb dX5_weakest_13 (by decide) (fun c_1 => ?_) (fun c_1 => ?_)
  · skip
    have c_1 : 676 ≤ j := (nI_leI (a := 676) (b := j) (by omega) (by omega)).mp c_1
    obtain rfl : 676 = j := by omega
    refine lv_iload_n hx hb dX5_weakest_71 rfl (lv_at hl 1 rfl) ?_
    exact W.iret (v := (zws pt pl 676)) hx hb hr (fun t ht hW => ⟨⟨_, (), rfl, rfl, by rw [ht]; exact hP, hD⟩, hS.F ht⟩) hS.2.2 dX5_weakest_72
  · skip
    have c_1 : ¬ 676 ≤ j := fun hh => c_1 ((nI_leI (a := 676) (b := j) (by omega) (by omega)).mpr hh)
    refine lv_aload_n hx hb dX5_weakest_16 rfl (lv_at hl 2 rfl) ?_
    refine va_get (ci := 5) (v := .ref (h 2)) (C := RX5) (T := TX5) (N := 20) hx hb hts hinX5 hown hK hP 0 rfl rfl 3 (by decide) (hts (.fieldLink RX5 13 "TypingTutorModel" "tries" "[I") (List.mem_of_getElem? (i := 2) rfl)) (fun _ h9 => h9) rfl dX5_weakest_17 ?_
    refine lv_bipush (v := 26) hx hb dX5_weakest_20 (by decide) ?_
    refine lv_iload_n hx hb dX5_weakest_22 rfl (lv_at hl 0 rfl) ?_
    refine lv_iadd hx hb dX5_weakest_23 ?_
    refine lv_topi (fun v_2 ev_2 => ?_)
    obtain rfl : v_2 = (nI (26 + j)) := ev_2.trans (nI_add 26 j)
    refine va_iald hx hb hK hP 2 0 rfl rfl (vp_in_nI (n := (26 + j)) (N := 702) (by omega) (by omega)) dX5_weakest_24 ?_
    rw [pk_cl (x := (nI (26 + j))) (26 + j) (rfl) (by omega)]
    rw [show ((zcb kt pt), (zcb km pm), (zcb kl pl)).1 (26 + j) = pt j from zcb_p]
    refine lv_if_ne (tgt := 31) hx hb dX5_weakest_25 (by decide) (fun c_3 => ?_) (fun c_3 => ?_)
    · skip
      refine lv_iload_n hx hb dX5_weakest_31 rfl (lv_at hl 1 rfl) ?_
      refine lv_iconst (v := (-1)) hx hb dX5_weakest_32 (by decide) ?_
      refine lv_icmp_eq (tgt := 63) hx hb dX5_weakest_33 (by decide) (fun c_4 => ?_) (fun c_4 => ?_)
      · skip
        refine lv_iload_n hx hb dX5_weakest_63 rfl (lv_at hl 0 rfl) ?_
        refine lv_istore_n (lv' := [(1, .int (nI j)), (2, .int (nI j)), (0, .ref (h 0))]) hx hb dX5_weakest_64 rfl hl (by decide) rfl (fun ls hl => ?_)
        refine lv_iinc (v := (nI (j + 1))) (lv' := [(2, .int (nI (j + 1))), (1, .int (nI j)), (0, .ref (h 0))]) hx hb dX5_weakest_65 hl (k := 1) rfl (nI_add j 1) (by decide) rfl (fun ls hl => ?_)
        refine lv_goto (tgt := 9) hx hb dX5_weakest_68 (by decide) ?_
        exact ih (j + 1, (nI j)) (⟨by omega, ((if_neg c_3).trans (if_pos (Or.inl c_4))).symm⟩) (by omega) _ _ _ hP hD hS (lv_sub hl [0, 1, 2] rfl)
      · skip
        obtain ⟨b9, hb9, e9⟩ := (zws_in pt pl j).resolve_left c_4
        rw [e9] at hl
        refine lv_aload_n hx hb dX5_weakest_36 rfl (lv_at hl 2 rfl) ?_
        refine lv_iload_n hx hb dX5_weakest_37 rfl (lv_at hl 0 rfl) ?_
        refine lv_bipush (v := 26) hx hb dX5_weakest_38 (by decide) ?_
        refine lv_idiv hx hb dX5_weakest_40 (by decide) ?_
        rw [show (nI j) / 26 = nI (j / 26) from pk_div (a := j) (d := 26) (by omega) (by omega) (by omega)]
        refine lv_iload_n hx hb dX5_weakest_41 rfl (lv_at hl 0 rfl) ?_
        refine lv_bipush (v := 26) hx hb dX5_weakest_42 (by decide) ?_
        refine lv_irem hx hb dX5_weakest_44 (by decide) ?_
        rw [show (nI j) - (nI j) / 26 * 26 = nI (j % 26) from pk_rem (a := j) (d := 26) (by omega) (by omega) (by omega)]
        refine zci (zrV (As := [.int (nI (j / 26)), .int (nI (j % 26))]) (rest := []) ⟨hx, hb, hml, hown, hts⟩ (zV 0 hP hD hK hE hB hS rfl rfl) (c_X5_weakness (a := (j / 26)) (b := (j % 26)) (by omega) (Nat.mod_lt _ (by decide))) (cwV 2 hts gX5_weakest_X5_weakness rfl rfl rfl hdv_X5_weakness ⟨Nat.le_of_ble_eq_true rfl, Nat.le_of_ble_eq_true rfl⟩) rfl rfl hl.1 rfl (lv_room (Nat.le_of_ble_eq_true rfl)) dX5_weakest_45 ⟨Nat.le_of_ble_eq_true rfl, Nat.le_of_ble_eq_true rfl⟩) hS (fun H locs hP hD hS => ?_)
        have hP : va_P D vwCl (zWM cI cJ cZ h 0 (n, L) ((zcb kt pt), (zcb km pm), (zcb kl pl)) mc (run, wc, nu, lc, le, af, tr, ms, cl, tm) (co, yn, yh, pa) ++ R) _ := hP
        have hD : va_D (zAb B) (zWM cI cJ cZ h 0 (n, L) ((zcb kt pt), (zcb km pm), (zcb kl pl)) mc (run, wc, nu, lc, le, af, tr, ms, cl, tm) (co, yn, yh, pa) ++ R) := hD
        rw [show (zwk pt pl (nI (26 * (j / 26) + (j % 26)))) = (zwk pt pl (nI j)) from (by rw [show 26 * (j / 26) + j % 26 = j from Nat.div_add_mod j 26])]
        refine lv_aload_n hx hb dX5_weakest_48 rfl (lv_at hl 2 rfl) ?_
        refine lv_iload_n hx hb dX5_weakest_49 rfl (lv_at hl 1 rfl) ?_
        refine lv_bipush (v := 26) hx hb dX5_weakest_50 (by decide) ?_
        refine lv_idiv hx hb dX5_weakest_52 (by decide) ?_
        rw [show (nI b9) / 26 = nI (b9 / 26) from pk_div (a := b9) (d := 26) (by omega) (by omega) (by omega)]
        refine lv_iload_n hx hb dX5_weakest_53 rfl (lv_at hl 1 rfl) ?_
        refine lv_bipush (v := 26) hx hb dX5_weakest_54 (by decide) ?_
        refine lv_irem hx hb dX5_weakest_56 (by decide) ?_
        rw [show (nI b9) - (nI b9) / 26 * 26 = nI (b9 % 26) from pk_rem (a := b9) (d := 26) (by omega) (by omega) (by omega)]
        refine zci (zrV (As := [.int (nI (b9 / 26)), .int (nI (b9 % 26))]) (rest := [.int (zwk pt pl (nI j))]) ⟨hx, hb, hml, hown, hts⟩ (zV 0 hP hD hK hE hB hS rfl rfl) (c_X5_weakness (a := (b9 / 26)) (b := (b9 % 26)) (by omega) (Nat.mod_lt _ (by decide))) (cwV 2 hts gX5_weakest_X5_weakness rfl rfl rfl hdv_X5_weakness ⟨Nat.le_of_ble_eq_true rfl, Nat.le_of_ble_eq_true rfl⟩) rfl rfl hl.1 rfl (lv_room (Nat.le_of_ble_eq_true rfl)) dX5_weakest_57 ⟨Nat.le_of_ble_eq_true rfl, Nat.le_of_ble_eq_true rfl⟩) hS (fun H locs hP hD hS => ?_)
        have hP : va_P D vwCl (zWM cI cJ cZ h 0 (n, L) ((zcb kt pt), (zcb km pm), (zcb kl pl)) mc (run, wc, nu, lc, le, af, tr, ms, cl, tm) (co, yn, yh, pa) ++ R) _ := hP
        have hD : va_D (zAb B) (zWM cI cJ cZ h 0 (n, L) ((zcb kt pt), (zcb km pm), (zcb kl pl)) mc (run, wc, nu, lc, le, af, tr, ms, cl, tm) (co, yn, yh, pa) ++ R) := hD
        rw [show (zwk pt pl (nI (26 * (b9 / 26) + (b9 % 26)))) = (zwk pt pl (nI b9)) from (by rw [show 26 * (b9 / 26) + b9 % 26 = b9 from Nat.div_add_mod b9 26])]
        refine lv_icmp_le (tgt := 65) hx hb dX5_weakest_60 (by decide) (fun c_5 => ?_) (fun c_5 => ?_)
        · skip
          refine lv_iinc (v := (nI (j + 1))) (lv' := [(2, .int (nI (j + 1))), (1, .int (nI b9)), (0, .ref (h 0))]) hx hb dX5_weakest_65 hl (k := 0) rfl (nI_add j 1) (by decide) rfl (fun ls hl => ?_)
          refine lv_goto (tgt := 9) hx hb dX5_weakest_68 (by decide) ?_
          exact ih (j + 1, (nI b9)) (⟨by omega, ((if_neg c_3).trans ((if_neg (fun hh => hh.elim c_4 (fun q => absurd (e9 ▸ q) (Int32.not_lt.mpr c_5)))).trans e9)).symm⟩) (by omega) _ _ _ hP hD hS (lv_sub hl [0, 1, 2] rfl)
        · skip
          refine lv_iload_n hx hb dX5_weakest_63 rfl (lv_at hl 0 rfl) ?_
          refine lv_istore_n (lv' := [(1, .int (nI j)), (2, .int (nI j)), (0, .ref (h 0))]) hx hb dX5_weakest_64 rfl hl (by decide) rfl (fun ls hl => ?_)
          refine lv_iinc (v := (nI (j + 1))) (lv' := [(2, .int (nI (j + 1))), (1, .int (nI j)), (0, .ref (h 0))]) hx hb dX5_weakest_65 hl (k := 1) rfl (nI_add j 1) (by decide) rfl (fun ls hl => ?_)
          refine lv_goto (tgt := 9) hx hb dX5_weakest_68 (by decide) ?_
          exact ih (j + 1, (nI j)) (⟨by omega, ((if_neg c_3).trans (if_pos (Or.inr (e9.symm ▸ Int32.not_le.mp c_5)))).symm⟩) (by omega) _ _ _ hP hD hS (lv_sub hl [0, 1, 2] rfl)
    · skip
      refine lv_goto (tgt := 65) hx hb dX5_weakest_28 (by decide) ?_
      refine lv_iinc (v := (nI (j + 1))) (lv' := [(2, .int (nI (j + 1))), (1, .int (zws pt pl j)), (0, .ref (h 0))]) hx hb dX5_weakest_65 hl (k := 0) rfl (nI_add j 1) (by decide) rfl (fun ls hl => ?_)
      refine lv_goto (tgt := 9) hx hb dX5_weakest_68 (by decide) ?_
      exact ih (j + 1, (zws pt pl j)) (⟨by omega, (if_pos c_3).symm⟩) (by omega) _ _ _ hP hD hS (lv_sub hl [0, 1, 2] rfl)
