set_option maxHeartbeats 1000000 in
set_option maxRecDepth 100000 in
theorem c_X4_accuracy {l : Launch} {B kr kp : Nat} {D : va_G} {cI cJ cZ : ClassId} {h : Nat → Nat} {R : va_W} {n : Nat} {L : Nat → Int64} {kt : Nat → Int32} {km : Nat → Int32} {kl : Nat → Int32} {pt : Nat → Int32} {pm : Nat → Int32} {pl : Nat → Int32} {nu : Nat → Int32} {le : Nat → Int32} {ow : Nat → Int32} {fo : Nat → Int32} {run : Bool} {wc : Nat} {lc : Nat} {tr : Nat} {cl : Nat} {tm : Nat} {ms : Nat} {yl : Nat → Int32} {yc : Nat → Int32} {yt : Nat → Int32} {co : Nat} {pa : Int32} {su : Nat} {sc : Nat} {mc : Nat → Int32}    (hsl : su < 2147483648) : Met l yX4_accuracy wsX4_accuracy ({ frames := 1, cells := 0, slots := 0, locals := 20 }) (zPc B kr kp D (zTy cI cJ cZ) (zWT cI cJ h (n, L) (kt, km, kl) (pt, pm, pl) (nu, le, ow, fo, run, wc, lc, tr, cl, tm, ms) (yl, yc, yt, co, pa, su, sc) mc ++ R) [.ref (h 0)]) (zQd B D (zWT cI cJ h (n, L) (kt, km, kl) (pt, pm, pl) (nu, le, ow, fo, run, wc, lc, tr, cl, tm, ms) (yl, yc, yt, co, pa, su, sc) mc ++ R) (zac su sc)) 0 0 (zAb B) := by
  refine Met.ofW (cc := cX4_accuracy) (maxL := 2) (ret := (some .double)) (by decide) rfl ?_
  intro p e s m args below meth c s₁ B0 hml hv
  obtain ⟨rfl, hP, hD, hK, hE, hB⟩ := hv
  have hx := B0.exec
  have hb := B0.bytes
  have hr := B0.returns
  have hts := atoms_spec (ws := wsX4_accuracy) B0.pre
  have hown : s.vm.findClass RX4 = some m.cls := findClass_of_methodNamed B0.named
  have hlocks := B0.notSynchronized
  have hA : ∀ q : Nat, s.heap.size ≤ q → zAb B q := fun q hq => Nat.le_trans hB hq
  have hS : va_S (zAb B) s.heap s.heap [] := va_S.rf
  have hgr : s.heap.size ≤ s.heap.size := Nat.le_refl _
  have hl := lv_entry ([.ref (h 0)]) (n := 2) (Nat.le_of_ble_eq_true rfl)
  rw [lg_entry_eq]
  generalize (lg_sl ([.ref (h 0)]) ++ List.replicate (2 - (lg_sl ([.ref (h 0)])).length) Slot.unset).toArray = ls at hl ⊢
  have hl : lv_has ls 2 [(0, .ref (h 0))] := hl
  have hinX4 : ∀ w ∈ wsX40, w ∈ wsX4_accuracy := fun _ h => List.mem_cons_of_mem _ (List.mem_append_left _ (List.mem_append_right _ h))
  have hP : va_P D vwCl (zWT cI cJ h (n, L) (kt, km, kl) (pt, pm, pl) (nu, le, ow, fo, run, wc, lc, tr, cl, tm, ms) (yl, yc, yt, co, pa, su, sc) mc ++ R) s.heap := hP
  have hD : va_D (zAb B) (zWT cI cJ h (n, L) (kt, km, kl) (pt, pm, pl) (nu, le, ow, fo, run, wc, lc, tr, cl, tm, ms) (yl, yc, yt, co, pa, su, sc) mc ++ R) := hD
  refine lv_aload_n hx hb dX4_accuracy_0 rfl (lv_at hl 0 rfl) ?_
  refine va_get (ci := 4) (v := .ref (h 16)) (C := RX4) (T := TX4) (N := 6) hx hb hts hinX4 hown hK hP 0 rfl rfl 4 (by decide) (hts (.fieldLink RX4 38 "TypingTutor" "past" "LTypingTutor$History;") (List.mem_of_getElem? (i := 1) rfl)) (fun _ h9 => h9) rfl dX4_accuracy_1 ?_
  refine zci (zrV (As := []) (rest := []) ⟨hx, hb, hml, hown, hts⟩ (zV 16 hP hD hK hE hB hS rfl rfl) (c_X0_letterSum  ) (cwV 0 hts gX4_accuracy_X0_letterSum rfl rfl rfl hdv_X0_letterSum ⟨Nat.le_of_ble_eq_true rfl, Nat.le_of_ble_eq_true rfl⟩) rfl rfl hl.1 rfl (lv_room (Nat.le_of_ble_eq_true rfl)) dX4_accuracy_4 ⟨Nat.le_of_ble_eq_true rfl, Nat.le_of_ble_eq_true rfl⟩) hS (fun H locs hP hD hS => ?_)
  have hP : va_P D vwCl (zWT cI cJ h (n, L) (kt, km, kl) (pt, pm, pl) (nu, le, ow, fo, run, wc, lc, tr, cl, tm, ms) (yl, yc, yt, co, pa, su, sc) mc ++ R) _ := hP
  have hD : va_D (zAb B) (zWT cI cJ h (n, L) (kt, km, kl) (pt, pm, pl) (nu, le, ow, fo, run, wc, lc, tr, cl, tm, ms) (yl, yc, yt, co, pa, su, sc) mc ++ R) := hD
  refine lv_istore_n (lv' := [(1, .int (nI su)), (0, .ref (h 0))]) hx hb dX4_accuracy_7 rfl hl (by decide) rfl (fun ls hl => ?_)
  refine lv_iload_n hx hb dX4_accuracy_8 rfl (lv_at hl 0 rfl) ?_
  refine lv_if_le (tgt := 26) hx hb dX4_accuracy_9 (by decide) (fun c_1 => ?_) (fun c_1 => ?_)
  · skip
    have c_1 : su ≤ 0 := (nI_leI (a := su) (b := 0) (by omega) (by omega)).mp c_1
    refine lv_dconst1 hx hb dX4_accuracy_26 ?_
    exact W.dret (v := FP.dconst1) hx hb hr (fun t ht hW => ⟨⟨_, (), rfl, (if_neg (by omega)).symm, by rw [ht]; exact hP, hD⟩, hS.F ht⟩) hS.2.2 dX4_accuracy_27
  · skip
    have c_1 : ¬ su ≤ 0 := fun hh => c_1 ((nI_leI (a := su) (b := 0) (by omega) (by omega)).mpr hh)
    refine lv_aload_n hx hb dX4_accuracy_12 rfl (lv_at hl 1 rfl) ?_
    refine va_get (ci := 4) (v := .ref (h 16)) (C := RX4) (T := TX4) (N := 6) hx hb hts hinX4 hown hK hP 0 rfl rfl 4 (by decide) (hts (.fieldLink RX4 38 "TypingTutor" "past" "LTypingTutor$History;") (List.mem_of_getElem? (i := 1) rfl)) (fun _ h9 => h9) rfl dX4_accuracy_13 ?_
    refine zci (zrV (As := []) (rest := []) ⟨hx, hb, hml, hown, hts⟩ (zV 16 hP hD hK hE hB hS rfl rfl) (c_X0_cleanSum  ) (cwV 0 hts gX4_accuracy_X0_cleanSum rfl rfl rfl hdv_X0_cleanSum ⟨Nat.le_of_ble_eq_true rfl, Nat.le_of_ble_eq_true rfl⟩) rfl rfl hl.1 rfl (lv_room (Nat.le_of_ble_eq_true rfl)) dX4_accuracy_16 ⟨Nat.le_of_ble_eq_true rfl, Nat.le_of_ble_eq_true rfl⟩) hS (fun H locs hP hD hS => ?_)
    have hP : va_P D vwCl (zWT cI cJ h (n, L) (kt, km, kl) (pt, pm, pl) (nu, le, ow, fo, run, wc, lc, tr, cl, tm, ms) (yl, yc, yt, co, pa, su, sc) mc ++ R) _ := hP
    have hD : va_D (zAb B) (zWT cI cJ h (n, L) (kt, km, kl) (pt, pm, pl) (nu, le, ow, fo, run, wc, lc, tr, cl, tm, ms) (yl, yc, yt, co, pa, su, sc) mc ++ R) := hD
    refine lv_i2d hx hb dX4_accuracy_19 ?_
    refine lv_iload_n hx hb dX4_accuracy_20 rfl (lv_at hl 0 rfl) ?_
    refine lv_i2d hx hb dX4_accuracy_21 ?_
    refine lv_ddiv hx hb dX4_accuracy_22 (zddiv _ _ (nI_ne0 (by omega) (by omega))) ?_
    refine lv_goto (tgt := 27) hx hb dX4_accuracy_23 (by decide) ?_
    exact W.dret (v := (FP.ddiv (FP.i2d (nI sc)) (FP.i2d (nI su)))) hx hb hr (fun t ht hW => ⟨⟨_, (), rfl, (if_pos (by omega)).symm, by rw [ht]; exact hP, hD⟩, hS.F ht⟩) hS.2.2 dX4_accuracy_27

set_option maxHeartbeats 1000000 in
set_option maxRecDepth 100000 in
theorem c_X5_accuracy {l : Launch} {B kr kp : Nat} {D : va_G} {cI cJ cZ : ClassId} {h : Nat → Nat} {R : va_W} {th : Int32} {n : Nat} {L : Nat → Int64} {kt : Nat → Int32} {km : Nat → Int32} {kl : Nat → Int32} {pt : Nat → Int32} {pm : Nat → Int32} {pl : Nat → Int32} {nu : Nat → Int32} {le : Nat → Int32} {af : Nat → Int32} {run : Bool} {wc : Nat} {lc : Nat} {tr : Nat} {cl : Nat} {tm : Nat} {ms : Nat} {co : Nat} {yn : Nat} {yh : Nat → Int32} {pa : Int32} {mc : Nat → Int32}  {yl : Nat → Int32} {yc : Nat → Int32} {yt : Nat → Int32} {su : Nat} {sc : Nat}  (hH : zHi yh yl yc yt co) (hhn : 3 * co ≤ yn) (hh3 : yn ≤ 1530) (hsu : zSum yl co = nI su) (hsc : zSum yc co = nI sc) (hsl : su < 2147483648) : Met l yX5_accuracy wsX5_accuracy ({ frames := 0, cells := 0, slots := 0, locals := 0 }) (zPc B kr kp D (zTy cI cJ cZ) (zWM cI cJ cZ h th (n, L) ((zcb kt pt), (zcb km pm), (zcb kl pl)) mc (run, wc, nu, lc, le, af, tr, ms, cl, tm) (co, yn, yh, pa) ++ R) [.ref (h 0)]) (zQd B D (zWM cI cJ cZ h 0 (n, L) ((zcb kt pt), (zcb km pm), (zcb kl pl)) mc (run, wc, nu, lc, le, af, tr, ms, cl, tm) (co, yn, yh, pa) ++ R) (zac su sc)) 0 0 (zAb B) := by
  refine Met.ofW (cc := cX5_accuracy) (maxL := 4) (ret := (some .double)) (by decide) rfl ?_
  intro p e s m args below meth c s₁ B0 hml hv
  obtain ⟨rfl, hP, hD, hK, hE, hB⟩ := hv
  have hx := B0.exec
  have hb := B0.bytes
  have hr := B0.returns
  have hts := atoms_spec (ws := wsX5_accuracy) B0.pre
  have hown : s.vm.findClass RX5 = some m.cls := findClass_of_methodNamed B0.named
  have hlocks := B0.notSynchronized
  have hA : ∀ q : Nat, s.heap.size ≤ q → zAb B q := fun q hq => Nat.le_trans hB hq
  have hS : va_S (zAb B) s.heap s.heap [] := va_S.rf
  have hgr : s.heap.size ≤ s.heap.size := Nat.le_refl _
  have hl := lv_entry ([.ref (h 0)]) (n := 4) (Nat.le_of_ble_eq_true rfl)
  rw [lg_entry_eq]
  generalize (lg_sl ([.ref (h 0)]) ++ List.replicate (4 - (lg_sl ([.ref (h 0)])).length) Slot.unset).toArray = ls at hl ⊢
  have hl : lv_has ls 4 [(0, .ref (h 0))] := hl
  have hinX5 : ∀ w ∈ wsX50, w ∈ wsX5_accuracy := fun _ h => List.mem_cons_of_mem _ (List.mem_append_right _ h)
  have hP : va_P D vwCl (zWM cI cJ cZ h th (n, L) ((zcb kt pt), (zcb km pm), (zcb kl pl)) mc (run, wc, nu, lc, le, af, tr, ms, cl, tm) (co, yn, yh, pa) ++ R) s.heap := hP
  have hD : va_D (zAb B) (zWM cI cJ cZ h th (n, L) ((zcb kt pt), (zcb km pm), (zcb kl pl)) mc (run, wc, nu, lc, le, af, tr, ms, cl, tm) (co, yn, yh, pa) ++ R) := hD
  refine lv_aload_n hx hb dX5_accuracy_0 rfl (lv_at hl 0 rfl) ?_
  refine lv_iconst (v := 0) hx hb dX5_accuracy_1 (by decide) ?_
  refine va_put (ci := 5) (v := .int 0) (ty := .int) (C := RX5) (T := TX5) (N := 20) hx hb hts hinX5 tyX5 tyX5_ok nmX5 hown hK hP hD hS 0 rfl rfl 0 (by decide) (hts (.fieldLink RX5 43 "TypingTutorModel" "thrown" "I") (List.mem_of_getElem? (i := 1) rfl)) (fun _ h9 => h9) rfl (by decide +kernel) rfl rfl (Nat.le_of_ble_eq_true rfl) dX5_accuracy_2 (fun H locs hP hD hS => ?_)
  have hP : va_P D vwCl (zWM cI cJ cZ h 0 (n, L) ((zcb kt pt), (zcb km pm), (zcb kl pl)) mc (run, wc, nu, lc, le, af, tr, ms, cl, tm) (co, yn, yh, pa) ++ R) _ := hP
  have hD : va_D (zAb B) (zWM cI cJ cZ h 0 (n, L) ((zcb kt pt), (zcb km pm), (zcb kl pl)) mc (run, wc, nu, lc, le, af, tr, ms, cl, tm) (co, yn, yh, pa) ++ R) := hD
  refine lv_iconst (v := 0) hx hb dX5_accuracy_5 (by decide) ?_
  refine lv_istore_n (lv' := [(1, .int 0), (0, .ref (h 0))]) hx hb dX5_accuracy_6 rfl hl (by decide) rfl (fun ls hl => ?_)
  refine lv_iconst (v := 0) hx hb dX5_accuracy_7 (by decide) ?_
  refine lv_istore_n (lv' := [(2, .int 0), (1, .int 0), (0, .ref (h 0))]) hx hb dX5_accuracy_8 rfl hl (by decide) rfl (fun ls hl => ?_)
  refine lv_iconst (v := 0) hx hb dX5_accuracy_9 (by decide) ?_
  refine lv_istore_n (lv' := [(3, .int 0), (2, .int 0), (1, .int 0), (0, .ref (h 0))]) hx hb dX5_accuracy_10 rfl hl (by decide) rfl (fun ls hl => ?_)
  refine zloop (σ := (Nat) × (Int32) × (Int32)) (nL := 4) (fun x9 => (zWM cI cJ cZ h 0 (n, L) ((zcb kt pt), (zcb km pm), (zcb kl pl)) mc (run, wc, nu, lc, le, af, tr, ms, cl, tm) (co, yn, yh, pa) ++ R)) (fun x9 => [(3, .int (nI x9.1)), (2, .int x9.2.2), (1, .int x9.2.1), (0, .ref (h 0))]) (fun x9 => []) (fun x9 => (x9.1 ≤ co) ∧ x9.2.1 = zSum yl x9.1 ∧ x9.2.2 = zSum yc x9.1) (fun x9 => co - x9.1) ?_ (0, 0, 0) (⟨by omega, rfl, rfl⟩) _ _ _ hP hD hS (lv_sub hl [0, 1, 2, 3] rfl)
  rintro ⟨j, z1, z2⟩ hI ih H locs ls hP hD hS hl
  try dsimp only at hI ih hP hD hS hl ⊢
  obtain ⟨hI, rfl, rfl⟩ := hI
  refine lv_iload_n hx hb dX5_accuracy_11 rfl (lv_at hl 0 rfl) ?_
  refine lv_aload_n hx hb dX5_accuracy_12 rfl (lv_at hl 3 rfl) ?_
  refine va_get (ci := 5) (v := .int (nI co)) (C := RX5) (T := TX5) (N := 20) hx hb hts hinX5 hown hK hP 0 rfl rfl 17 (by decide) (hts (.fieldLink RX5 145 "TypingTutorModel" "finished" "I") (List.mem_of_getElem? (i := 2) rfl)) (fun _ h9 => h9) rfl dX5_accuracy_13 ?_
  refine lv_icmp_ge (tgt := 49) hx hb dX5_accuracy_16 (by decide) (fun c_1 => ?_) (fun c_1 => ?_)
  · skip
    have c_1 : co ≤ j := (nI_leI (a := co) (b := j) (by omega) (by omega)).mp c_1
    obtain rfl : co = j := by omega
    rw [show zSum yl co = nI su from hsu, show zSum yc co = nI sc from hsc] at hl
    refine lv_iload_n hx hb dX5_accuracy_49 rfl (lv_at hl 2 rfl) ?_
    refine lv_if_ne (tgt := 57) hx hb dX5_accuracy_50 (by decide) (fun c_2 => ?_) (fun c_2 => ?_)
    · skip
      have c_2 : ¬ su = 0 := fun hh => c_2 ((nI_eq (a := su) (b := 0) (by omega) (by omega)).mpr hh)
      refine lv_iload_n hx hb dX5_accuracy_57 rfl (lv_at hl 1 rfl) ?_
      refine lv_i2d hx hb dX5_accuracy_58 ?_
      refine lv_iload_n hx hb dX5_accuracy_59 rfl (lv_at hl 2 rfl) ?_
      refine lv_i2d hx hb dX5_accuracy_60 ?_
      refine lv_ddiv hx hb dX5_accuracy_61 (zddiv _ _ (nI_ne0 (by omega) (by omega))) ?_
      exact W.dret (v := (FP.ddiv (FP.i2d (nI sc)) (FP.i2d (nI su)))) hx hb hr (fun t ht hW => ⟨⟨_, (), rfl, (if_pos (by omega)).symm, by rw [ht]; exact hP, hD⟩, hS.F ht⟩) hS.2.2 dX5_accuracy_62
    · skip
      have c_2 : su = 0 := (nI_eq (a := su) (b := 0) (by omega) (by omega)).mp c_2
      refine lv_dconst1 hx hb dX5_accuracy_53 ?_
      refine lv_goto (tgt := 62) hx hb dX5_accuracy_54 (by decide) ?_
      exact W.dret (v := FP.dconst1) hx hb hr (fun t ht hW => ⟨⟨_, (), rfl, (if_neg (by omega)).symm, by rw [ht]; exact hP, hD⟩, hS.F ht⟩) hS.2.2 dX5_accuracy_62
  · skip
    have c_1 : ¬ co ≤ j := fun hh => c_1 ((nI_leI (a := co) (b := j) (by omega) (by omega)).mpr hh)
    refine lv_iload_n hx hb dX5_accuracy_19 rfl (lv_at hl 2 rfl) ?_
    refine lv_aload_n hx hb dX5_accuracy_20 rfl (lv_at hl 3 rfl) ?_
    refine va_get (ci := 5) (v := .ref (h 9)) (C := RX5) (T := TX5) (N := 20) hx hb hts hinX5 hown hK hP 0 rfl rfl 18 (by decide) (hts (.fieldLink RX5 36 "TypingTutorModel" "history" "[I") (List.mem_of_getElem? (i := 3) rfl)) (fun _ h9 => h9) rfl dX5_accuracy_21 ?_
    refine lv_iconst (v := 3) hx hb dX5_accuracy_24 (by decide) ?_
    refine lv_iload_n hx hb dX5_accuracy_25 rfl (lv_at hl 0 rfl) ?_
    refine lv_imul hx hb dX5_accuracy_26 ?_
    refine lv_topi (fun v_3 ev_3 => ?_)
    obtain rfl : v_3 = (nI (3 * j)) := ev_3.trans (pk_mul 3 j)
    refine va_iald hx hb hK hP 9 0 rfl rfl (vp_in_nI (n := (3 * j)) (N := yn) (by omega) (by omega)) dX5_accuracy_27 ?_
    rw [pk_cl (x := (nI (3 * j))) (3 * j) (rfl) (by omega)]
    refine lv_topi (fun v_4 ev_4 => ?_)
    obtain rfl : yl j = v_4 := (ev_4.trans (zHi_0 hH (by omega))).symm
    refine lv_iadd hx hb dX5_accuracy_28 ?_
    refine lv_istore_n (lv' := [(1, .int ((zSum yl j) + (yl j))), (3, .int (nI j)), (2, .int (zSum yc j)), (0, .ref (h 0))]) hx hb dX5_accuracy_29 rfl hl (by decide) rfl (fun ls hl => ?_)
    refine lv_iload_n hx hb dX5_accuracy_30 rfl (lv_at hl 2 rfl) ?_
    refine lv_aload_n hx hb dX5_accuracy_31 rfl (lv_at hl 3 rfl) ?_
    refine va_get (ci := 5) (v := .ref (h 9)) (C := RX5) (T := TX5) (N := 20) hx hb hts hinX5 hown hK hP 0 rfl rfl 18 (by decide) (hts (.fieldLink RX5 36 "TypingTutorModel" "history" "[I") (List.mem_of_getElem? (i := 3) rfl)) (fun _ h9 => h9) rfl dX5_accuracy_32 ?_
    refine lv_iconst (v := 3) hx hb dX5_accuracy_35 (by decide) ?_
    refine lv_iload_n hx hb dX5_accuracy_36 rfl (lv_at hl 1 rfl) ?_
    refine lv_imul hx hb dX5_accuracy_37 ?_
    refine lv_topi (fun v_5 ev_5 => ?_)
    obtain rfl : v_5 = (nI (3 * j)) := ev_5.trans (pk_mul 3 j)
    refine lv_iconst (v := 1) hx hb dX5_accuracy_38 (by decide) ?_
    refine lv_iadd hx hb dX5_accuracy_39 ?_
    refine lv_topi (fun v_6 ev_6 => ?_)
    obtain rfl : v_6 = (nI ((3 * j) + 1)) := ev_6.trans (nI_add (3 * j) 1)
    refine va_iald hx hb hK hP 9 0 rfl rfl (vp_in_nI (n := ((3 * j) + 1)) (N := yn) (by omega) (by omega)) dX5_accuracy_40 ?_
    rw [pk_cl (x := (nI ((3 * j) + 1))) ((3 * j) + 1) (rfl) (by omega)]
    refine lv_topi (fun v_7 ev_7 => ?_)
    obtain rfl : yc j = v_7 := (ev_7.trans (zHi_1 hH (by omega))).symm
    refine lv_iadd hx hb dX5_accuracy_41 ?_
    refine lv_istore_n (lv' := [(2, .int ((zSum yc j) + (yc j))), (1, .int ((zSum yl j) + (yl j))), (3, .int (nI j)), (0, .ref (h 0))]) hx hb dX5_accuracy_42 rfl hl (by decide) rfl (fun ls hl => ?_)
    refine lv_iinc (v := (nI (j + 1))) (lv' := [(3, .int (nI (j + 1))), (2, .int ((zSum yc j) + (yc j))), (1, .int ((zSum yl j) + (yl j))), (0, .ref (h 0))]) hx hb dX5_accuracy_43 hl (k := 2) rfl (nI_add j 1) (by decide) rfl (fun ls hl => ?_)
    refine lv_goto (tgt := 11) hx hb dX5_accuracy_46 (by decide) ?_
    exact ih (j + 1, ((zSum yl j) + (yl j)), ((zSum yc j) + (yc j))) (⟨by omega, rfl, rfl⟩) (by omega) _ _ _ hP hD hS (lv_sub hl [0, 1, 2, 3] rfl)

set_option maxHeartbeats 1000000 in
set_option maxRecDepth 100000 in
theorem c_X5_open {l : Launch} {B kr kp : Nat} {D : va_G} {cI cJ cZ : ClassId} {h : Nat → Nat} {R : va_W} {th : Int32} {n : Nat} {L : Nat → Int64} {kt : Nat → Int32} {km : Nat → Int32} {kl : Nat → Int32} {pt : Nat → Int32} {pm : Nat → Int32} {pl : Nat → Int32} {nu : Nat → Int32} {le : Nat → Int32} {af : Nat → Int32} {run : Bool} {wc : Nat} {lc : Nat} {tr : Nat} {cl : Nat} {tm : Nat} {ms : Nat} {co : Nat} {yn : Nat} {yh : Nat → Int32} {pa : Int32} {mc : Nat → Int32} {words : Nat}   (hw1 : 1 ≤ words) (hw6 : words ≤ 6) (hrun : run = false) (hn0 : 0 < n) (hn : n ≤ 40) (hz : ∀ j, j < n → zok (L j) = true) : Met l yX5_open wsX5_open ({ frames := 3, cells := 0, slots := 0, locals := 69 }) (zPc B kr kp D (zTy cI cJ cZ) (zWM cI cJ cZ h th (n, L) ((zcb kt pt), (zcb km pm), (zcb kl pl)) mc (run, wc, nu, lc, le, af, tr, ms, cl, tm) (co, yn, yh, pa) ++ R) [.ref (h 0), .int (nI words)]) (zQi B D (zWM cI cJ cZ h 0 (n, L) ((zcb kt pt), (zcb km pm), (zcb kl pl)) mc (true, ((zoM L n kl pt pl (nu, le, af, 0, 0) words).2.2.2.1), ((zoM L n kl pt pl (nu, le, af, 0, 0) words).1), ((zoM L n kl pt pl (nu, le, af, 0, 0) words).2.2.2.2), ((zoM L n kl pt pl (nu, le, af, 0, 0) words).2.1), ((zoM L n kl pt pl (nu, le, af, 0, 0) words).2.2.1), 0, 0, 0, 0) (co, yn, yh, pa) ++ R) (nI ((zoM L n kl pt pl (nu, le, af, 0, 0) words).2.2.2.1))) 0 0 (zAb B) := by
  refine Met.ofW (cc := cX5_open) (maxL := 8) (ret := (some .int)) (by decide) rfl ?_
  intro p e s m args below meth c s₁ B0 hml hv
  obtain ⟨rfl, hP, hD, hK, hE, hB⟩ := hv
  have hx := B0.exec
  have hb := B0.bytes
  have hr := B0.returns
  have hts := atoms_spec (ws := wsX5_open) B0.pre
  have hown : s.vm.findClass RX5 = some m.cls := findClass_of_methodNamed B0.named
  have hlocks := B0.notSynchronized
  have hA : ∀ q : Nat, s.heap.size ≤ q → zAb B q := fun q hq => Nat.le_trans hB hq
  have hS : va_S (zAb B) s.heap s.heap [] := va_S.rf
  have hgr : s.heap.size ≤ s.heap.size := Nat.le_refl _
  have hl := lv_entry ([.ref (h 0), .int (nI words)]) (n := 8) (Nat.le_of_ble_eq_true rfl)
  rw [lg_entry_eq]
  generalize (lg_sl ([.ref (h 0), .int (nI words)]) ++ List.replicate (8 - (lg_sl ([.ref (h 0), .int (nI words)])).length) Slot.unset).toArray = ls at hl ⊢
  have hl : lv_has ls 8 [(0, .ref (h 0)), (1, .int (nI words))] := hl
  have hinX5 : ∀ w ∈ wsX50, w ∈ wsX5_open := fun _ h => List.mem_cons_of_mem _ (List.mem_append_right _ h)
  have hP : va_P D vwCl (zWM cI cJ cZ h th (n, L) ((zcb kt pt), (zcb km pm), (zcb kl pl)) mc (run, wc, nu, lc, le, af, tr, ms, cl, tm) (co, yn, yh, pa) ++ R) s.heap := hP
  have hD : va_D (zAb B) (zWM cI cJ cZ h th (n, L) ((zcb kt pt), (zcb km pm), (zcb kl pl)) mc (run, wc, nu, lc, le, af, tr, ms, cl, tm) (co, yn, yh, pa) ++ R) := hD
  refine lv_aload_n hx hb dX5_open_0 rfl (lv_at hl 0 rfl) ?_
  refine lv_iconst (v := 0) hx hb dX5_open_1 (by decide) ?_
  refine va_put (ci := 5) (v := .int 0) (ty := .int) (C := RX5) (T := TX5) (N := 20) hx hb hts hinX5 tyX5 tyX5_ok nmX5 hown hK hP hD hS 0 rfl rfl 0 (by decide) (hts (.fieldLink RX5 43 "TypingTutorModel" "thrown" "I") (List.mem_of_getElem? (i := 1) rfl)) (fun _ h9 => h9) rfl (by decide +kernel) rfl rfl (Nat.le_of_ble_eq_true rfl) dX5_open_2 (fun H locs hP hD hS => ?_)
  have hP : va_P D vwCl (zWM cI cJ cZ h 0 (n, L) ((zcb kt pt), (zcb km pm), (zcb kl pl)) mc (run, wc, nu, lc, le, af, tr, ms, cl, tm) (co, yn, yh, pa) ++ R) _ := hP
  have hD : va_D (zAb B) (zWM cI cJ cZ h 0 (n, L) ((zcb kt pt), (zcb km pm), (zcb kl pl)) mc (run, wc, nu, lc, le, af, tr, ms, cl, tm) (co, yn, yh, pa) ++ R) := hD
  refine lv_iload_n hx hb dX5_open_5 rfl (lv_at hl 1 rfl) ?_
  refine lv_iconst (v := 1) hx hb dX5_open_6 (by decide) ?_
  refine lv_icmp_lt (tgt := 16) hx hb dX5_open_7 (by decide) (fun c_1 => ?_) (fun c_1 => ?_)
  · skip
    have c_1 : words < 1 := (nI_ltI (a := words) (b := 1) (by omega) (by omega)).mp c_1
    exfalso; first | omega | (revert c_1; decide) | (exact absurd rfl c_1) | simp_all
  · skip
    have c_1 : ¬ words < 1 := fun hh => c_1 ((nI_ltI (a := words) (b := 1) (by omega) (by omega)).mpr hh)
    refine lv_iload_n hx hb dX5_open_10 rfl (lv_at hl 1 rfl) ?_
    refine lv_bipush (v := 6) hx hb dX5_open_11 (by decide) ?_
    refine lv_icmp_le (tgt := 22) hx hb dX5_open_13 (by decide) (fun c_2 => ?_) (fun c_2 => ?_)
    · skip
      have c_2 : words ≤ 6 := (nI_leI (a := words) (b := 6) (by omega) (by omega)).mp c_2
      refine lv_aload_n hx hb dX5_open_22 rfl (lv_at hl 0 rfl) ?_
      refine va_get (ci := 5) (v := .int (zb run)) (C := RX5) (T := TX5) (N := 20) hx hb hts hinX5 hown hK hP 0 rfl rfl 7 (by decide) (hts (.fieldLink RX5 106 "TypingTutorModel" "isOpen" "Z") (List.mem_of_getElem? (i := 2) rfl)) (fun _ h9 => h9) rfl dX5_open_23 ?_
      refine lv_if_ne (tgt := 36) hx hb dX5_open_26 (by decide) (fun c_3 => ?_) (fun c_3 => ?_)
      · skip
        have c_3 : run = true := zb_n c_3
        exact absurd (c_3.symm.trans hrun) (by decide)
      · skip
        have c_3 : run = false := zb_0 c_3
        refine lv_aload_n hx hb dX5_open_29 rfl (lv_at hl 0 rfl) ?_
        refine va_get (ci := 5) (v := .int (nI n)) (C := RX5) (T := TX5) (N := 20) hx hb hts hinX5 hown hK hP 0 rfl rfl 1 (by decide) (hts (.fieldLink RX5 46 "TypingTutorModel" "words" "I") (List.mem_of_getElem? (i := 3) rfl)) (fun _ h9 => h9) rfl dX5_open_30 ?_
        refine lv_if_ne (tgt := 42) hx hb dX5_open_33 (by decide) (fun c_4 => ?_) (fun c_4 => ?_)
        · skip
          have c_4 : ¬ n = 0 := fun hh => c_4 ((nI_eq (a := n) (b := 0) (by omega) (by omega)).mpr hh)
          refine lv_aload_n hx hb dX5_open_42 rfl (lv_at hl 0 rfl) ?_
          refine zcv (zrV (As := []) (rest := []) ⟨hx, hb, hml, hown, hts⟩ (zV 0 hP hD hK hE hB hS rfl rfl) (c_X5_begin  ) (cwV 0 hts gX5_open_X5_begin rfl rfl rfl hdv_X5_begin ⟨Nat.le_of_ble_eq_true rfl, Nat.le_of_ble_eq_true rfl⟩) rfl rfl hl.1 rfl (lv_room (Nat.le_of_ble_eq_true rfl)) dX5_open_43 ⟨Nat.le_of_ble_eq_true rfl, Nat.le_of_ble_eq_true rfl⟩) hS (fun H locs hP hD hS => ?_)
          have hP : va_P D vwCl (zWM cI cJ cZ h 0 (n, L) ((zcb kt pt), (zcb km pm), (zcb kl pl)) mc (true, 0, nu, 0, le, af, 0, 0, 0, 0) (co, yn, yh, pa) ++ R) _ := hP
          have hD : va_D (zAb B) (zWM cI cJ cZ h 0 (n, L) ((zcb kt pt), (zcb km pm), (zcb kl pl)) mc (true, 0, nu, 0, le, af, 0, 0, 0, 0) (co, yn, yh, pa) ++ R) := hD
          refine lv_iconst (v := 0) hx hb dX5_open_46 (by decide) ?_
          refine lv_istore_n (lv' := [(2, .int 0), (0, .ref (h 0)), (1, .int (nI words))]) hx hb dX5_open_47 rfl hl (by decide) rfl (fun ls hl => ?_)
          refine zloop (σ := (Nat)) (nL := 8) (fun x9 => (zWM cI cJ cZ h 0 (n, L) ((zcb kt pt), (zcb km pm), (zcb kl pl)) mc (true, (zoM L n kl pt pl (nu, le, af, 0, 0) x9).2.2.2.1, (zoM L n kl pt pl (nu, le, af, 0, 0) x9).1, (zoM L n kl pt pl (nu, le, af, 0, 0) x9).2.2.2.2, (zoM L n kl pt pl (nu, le, af, 0, 0) x9).2.1, (zoM L n kl pt pl (nu, le, af, 0, 0) x9).2.2.1, 0, 0, 0, 0) (co, yn, yh, pa) ++ R)) (fun x9 => [(2, .int (nI x9)), (0, .ref (h 0)), (1, .int (nI words))]) (fun x9 => []) (fun x9 => x9 ≤ words) (fun x9 => words - x9) ?_ (0) (by omega) _ _ _ hP hD hS (lv_sub hl [0, 1, 2] rfl)
          rintro j hI ih H locs ls hP hD hS hl
          try dsimp only at hI ih hP hD hS hl ⊢
          refine lv_iload_n hx hb dX5_open_48 rfl (lv_at hl 0 rfl) ?_
          refine lv_iload_n hx hb dX5_open_49 rfl (lv_at hl 2 rfl) ?_
          refine lv_icmp_ge (tgt := 214) hx hb dX5_open_50 (by decide) (fun c_5 => ?_) (fun c_5 => ?_)
          · skip
            have c_5 : words ≤ j := (nI_leI (a := words) (b := j) (by omega) (by omega)).mp c_5
            have e7 : (zoM L n kl pt pl (nu, le, af, 0, 0) j) = (zoM L n kl pt pl (nu, le, af, 0, 0) words) := by rw [show j = words from by omega]
            rw [e7] at hP hD
            refine lv_aload_n hx hb dX5_open_214 rfl (lv_at hl 1 rfl) ?_
            refine va_get (ci := 5) (v := .int (nI ((zoM L n kl pt pl (nu, le, af, 0, 0) words).2.2.2.1))) (C := RX5) (T := TX5) (N := 20) hx hb hts hinX5 hown hK hP 0 rfl rfl 8 (by decide) (hts (.fieldLink RX5 100 "TypingTutorModel" "lessonWords" "I") (List.mem_of_getElem? (i := 4) rfl)) (fun _ h9 => h9) rfl dX5_open_215 ?_
            exact W.iret (v := (nI ((zoM L n kl pt pl (nu, le, af, 0, 0) words).2.2.2.1))) hx hb hr (fun t ht hW => ⟨⟨_, (), rfl, rfl, by rw [ht]; exact hP, hD⟩, hS.F ht⟩) hS.2.2 dX5_open_218
          · skip
            have c_5 : ¬ words ≤ j := fun hh => c_5 ((nI_leI (a := words) (b := j) (by omega) (by omega)).mpr hh)
            have h91 : (zoM L n kl pt pl (nu, le, af, 0, 0) j).2.2.2.1 ≤ 0 + j := zoM_wc j
            have h92 := zoM_lc (L := L) (n := n) (kl := kl) (pt := pt) (pl := pl) (s := (nu, le, af, 0, 0)) (hs := Nat.le_refl 0) j
            refine lv_aload_n hx hb dX5_open_53 rfl (lv_at hl 1 rfl) ?_
            refine va_get (ci := 5) (v := .int (nI ((zoM L n kl pt pl (nu, le, af, 0, 0) j).2.2.2.1))) (C := RX5) (T := TX5) (N := 20) hx hb hts hinX5 hown hK hP 0 rfl rfl 8 (by decide) (hts (.fieldLink RX5 100 "TypingTutorModel" "lessonWords" "I") (List.mem_of_getElem? (i := 4) rfl)) (fun _ h9 => h9) rfl dX5_open_54 ?_
            refine lv_aload_n hx hb dX5_open_57 rfl (lv_at hl 1 rfl) ?_
            refine va_get (ci := 5) (v := .int (nI n)) (C := RX5) (T := TX5) (N := 20) hx hb hts hinX5 hown hK hP 0 rfl rfl 1 (by decide) (hts (.fieldLink RX5 46 "TypingTutorModel" "words" "I") (List.mem_of_getElem? (i := 3) rfl)) (fun _ h9 => h9) rfl dX5_open_58 ?_
            refine lv_icmp_ge (tgt := 214) hx hb dX5_open_61 (by decide) (fun c_6 => ?_) (fun c_6 => ?_)
            · skip
              have c_6 : n ≤ ((zoM L n kl pt pl (nu, le, af, 0, 0) j).2.2.2.1) := (nI_leI (a := n) (b := ((zoM L n kl pt pl (nu, le, af, 0, 0) j).2.2.2.1)) (by omega) (by omega)).mp c_6
              have e7 : (zoM L n kl pt pl (nu, le, af, 0, 0) j) = (zoM L n kl pt pl (nu, le, af, 0, 0) words) := by have e6 := zoM_stop (L := L) (n := n) (kl := kl) (pt := pt) (pl := pl) (s := (nu, le, af, 0, 0)) (j := j) (by omega) (words - j); rw [show j + (words - j) = words from by omega] at e6; exact e6.symm
              rw [e7] at hP hD
              refine lv_aload_n hx hb dX5_open_214 rfl (lv_at hl 1 rfl) ?_
              refine va_get (ci := 5) (v := .int (nI ((zoM L n kl pt pl (nu, le, af, 0, 0) words).2.2.2.1))) (C := RX5) (T := TX5) (N := 20) hx hb hts hinX5 hown hK hP 0 rfl rfl 8 (by decide) (hts (.fieldLink RX5 100 "TypingTutorModel" "lessonWords" "I") (List.mem_of_getElem? (i := 4) rfl)) (fun _ h9 => h9) rfl dX5_open_215 ?_
              exact W.iret (v := (nI ((zoM L n kl pt pl (nu, le, af, 0, 0) words).2.2.2.1))) hx hb hr (fun t ht hW => ⟨⟨_, (), rfl, rfl, by rw [ht]; exact hP, hD⟩, hS.F ht⟩) hS.2.2 dX5_open_218
            · skip
              have c_6 : ¬ n ≤ ((zoM L n kl pt pl (nu, le, af, 0, 0) j).2.2.2.1) := fun hh => c_6 ((nI_leI (a := n) (b := ((zoM L n kl pt pl (nu, le, af, 0, 0) j).2.2.2.1)) (by omega) (by omega)).mpr hh)
              have hwl9 : (zoM L n kl pt pl (nu, le, af, 0, 0) j).2.2.2.1 < n := by omega
              refine lv_iconst (v := (-1)) hx hb dX5_open_64 (by decide) ?_
              refine lv_istore_n (lv' := [(3, .int (-1)), (2, .int (nI j)), (0, .ref (h 0)), (1, .int (nI words))]) hx hb dX5_open_65 rfl hl (by decide) rfl (fun ls hl => ?_)
              refine lv_iconst (v := 0) hx hb dX5_open_66 (by decide) ?_
              refine lv_istore (lv' := [(4, .int 0), (3, .int (-1)), (2, .int (nI j)), (0, .ref (h 0)), (1, .int (nI words))]) hx hb dX5_open_67 hl (by decide) rfl (fun ls hl => ?_)
              refine lv_iconst (v := 0) hx hb dX5_open_69 (by decide) ?_
              refine lv_istore (lv' := [(5, .int 0), (4, .int 0), (3, .int (-1)), (2, .int (nI j)), (0, .ref (h 0)), (1, .int (nI words))]) hx hb dX5_open_70 hl (by decide) rfl (fun ls hl => ?_)
              refine zloop (σ := (Nat) × (Int32) × (Int32)) (nL := 8) (fun x9 => (zWM cI cJ cZ h 0 (n, L) ((zcb kt pt), (zcb km pm), (zcb kl pl)) mc (true, (zoM L n kl pt pl (nu, le, af, 0, 0) j).2.2.2.1, (zoM L n kl pt pl (nu, le, af, 0, 0) j).1, (zoM L n kl pt pl (nu, le, af, 0, 0) j).2.2.2.2, (zoM L n kl pt pl (nu, le, af, 0, 0) j).2.1, (zoM L n kl pt pl (nu, le, af, 0, 0) j).2.2.1, 0, 0, 0, 0) (co, yn, yh, pa) ++ R)) (fun x9 => [(5, .int (nI x9.1)), (4, .int x9.2.2), (3, .int x9.2.1), (2, .int (nI j)), (0, .ref (h 0)), (1, .int (nI words))]) (fun x9 => []) (fun x9 => (x9.1 ≤ n) ∧ x9.2.1 = (zpk (fun k => zhw (zoM L n kl pt pl (nu, le, af, 0, 0) j).1 (nI k) (zoM L n kl pt pl (nu, le, af, 0, 0) j).2.2.2.1) (fun k => zwl (fun x y => zhp (zoM L n kl pt pl (nu, le, af, 0, 0) j).2.2.1 (zoM L n kl pt pl (nu, le, af, 0, 0) j).2.1 x y ((zoM L n kl pt pl (nu, le, af, 0, 0) j).2.2.2.2 - 1)) kl pt pl (L k)) x9.1).1 ∧ x9.2.2 = (zpk (fun k => zhw (zoM L n kl pt pl (nu, le, af, 0, 0) j).1 (nI k) (zoM L n kl pt pl (nu, le, af, 0, 0) j).2.2.2.1) (fun k => zwl (fun x y => zhp (zoM L n kl pt pl (nu, le, af, 0, 0) j).2.2.1 (zoM L n kl pt pl (nu, le, af, 0, 0) j).2.1 x y ((zoM L n kl pt pl (nu, le, af, 0, 0) j).2.2.2.2 - 1)) kl pt pl (L k)) x9.1).2) (fun x9 => n - x9.1) ?_ (0, -1, 0) (⟨by omega, rfl, rfl⟩) _ _ _ hP hD hS (lv_sub hl [0, 1, 2, 3, 4, 5] rfl)
              rintro ⟨i, z1, z2⟩ hI1 ih1 H locs ls hP hD hS hl
              try dsimp only at hI1 ih1 hP hD hS hl ⊢
              obtain ⟨hI1, rfl, rfl⟩ := hI1
              refine lv_iload hx hb dX5_open_72 (lv_at hl 0 rfl) ?_
              refine lv_aload_n hx hb dX5_open_74 rfl (lv_at hl 4 rfl) ?_
              refine va_get (ci := 5) (v := .int (nI n)) (C := RX5) (T := TX5) (N := 20) hx hb hts hinX5 hown hK hP 0 rfl rfl 1 (by decide) (hts (.fieldLink RX5 46 "TypingTutorModel" "words" "I") (List.mem_of_getElem? (i := 3) rfl)) (fun _ h9 => h9) rfl dX5_open_75 ?_
              refine lv_icmp_ge (tgt := 203) hx hb dX5_open_78 (by decide) (fun c_7 => ?_) (fun c_7 => ?_)
              · skip
                have c_7 : n ≤ i := (nI_leI (a := n) (b := i) (by omega) (by omega)).mp c_7
                obtain rfl : n = i := by omega
                obtain ⟨k9, hk9, hc9, e9⟩ := (zpk_in (fun k => zhw (zoM L n kl pt pl (nu, le, af, 0, 0) j).1 (nI k) (zoM L n kl pt pl (nu, le, af, 0, 0) j).2.2.2.1) (fun k => zwl (fun x y => zhp (zoM L n kl pt pl (nu, le, af, 0, 0) j).2.2.1 (zoM L n kl pt pl (nu, le, af, 0, 0) j).2.1 x y ((zoM L n kl pt pl (nu, le, af, 0, 0) j).2.2.2.2 - 1)) kl pt pl (L k)) n).resolve_left (zpk_some (by omega) hwl9)
                rw [e9] at hl
                have e7 : zpM L n kl pt pl (zoM L n kl pt pl (nu, le, af, 0, 0) j) = nI k9 := e9
                have h91 : (zoM L n kl pt pl (nu, le, af, 0, 0) j).2.2.2.1 ≤ 0 + j := zoM_wc j
                have h92 := zoM_lc (L := L) (n := n) (kl := kl) (pt := pt) (pl := pl) (s := (nu, le, af, 0, 0)) (hs := Nat.le_refl 0) j
                have h93 := zsz_le (L k9)
                refine lv_aload_n hx hb dX5_open_203 rfl (lv_at hl 4 rfl) ?_
                refine lv_iload_n hx hb dX5_open_204 rfl (lv_at hl 2 rfl) ?_
                refine zcv (zrV (As := [.int (nI k9)]) (rest := []) ⟨hx, hb, hml, hown, hts⟩ (zV 0 hP hD hK hE hB hS rfl rfl) (c_X5_put (k := k9) (by omega) (by omega) (by omega)) (cwV 1 hts gX5_open_X5_put rfl rfl rfl hdv_X5_put ⟨Nat.le_of_ble_eq_true rfl, Nat.le_of_ble_eq_true rfl⟩) rfl rfl hl.1 rfl (lv_room (Nat.le_of_ble_eq_true rfl)) dX5_open_205 ⟨Nat.le_of_ble_eq_true rfl, Nat.le_of_ble_eq_true rfl⟩) hS (fun H locs hP hD hS => ?_)
                have hP : va_P D vwCl (zWM cI cJ cZ h 0 (n, L) ((zcb kt pt), (zcb km pm), (zcb kl pl)) mc (true, (((zoM L n kl pt pl (nu, le, af, 0, 0) j).2.2.2.1) + 1), (upd ((zoM L n kl pt pl (nu, le, af, 0, 0) j).1) ((zoM L n kl pt pl (nu, le, af, 0, 0) j).2.2.2.1) (nI k9)), (((zoM L n kl pt pl (nu, le, af, 0, 0) j).2.2.2.2) + zsz (L k9)), (zale ((zoM L n kl pt pl (nu, le, af, 0, 0) j).2.1) ((zoM L n kl pt pl (nu, le, af, 0, 0) j).2.2.2.2) (L k9) (zsz (L k9))), (zaaf ((zoM L n kl pt pl (nu, le, af, 0, 0) j).2.2.1) ((zoM L n kl pt pl (nu, le, af, 0, 0) j).2.2.2.2) (zsz (L k9))), 0, 0, 0, 0) (co, yn, yh, pa) ++ R) _ := hP
                have hD : va_D (zAb B) (zWM cI cJ cZ h 0 (n, L) ((zcb kt pt), (zcb km pm), (zcb kl pl)) mc (true, (((zoM L n kl pt pl (nu, le, af, 0, 0) j).2.2.2.1) + 1), (upd ((zoM L n kl pt pl (nu, le, af, 0, 0) j).1) ((zoM L n kl pt pl (nu, le, af, 0, 0) j).2.2.2.1) (nI k9)), (((zoM L n kl pt pl (nu, le, af, 0, 0) j).2.2.2.2) + zsz (L k9)), (zale ((zoM L n kl pt pl (nu, le, af, 0, 0) j).2.1) ((zoM L n kl pt pl (nu, le, af, 0, 0) j).2.2.2.2) (L k9) (zsz (L k9))), (zaaf ((zoM L n kl pt pl (nu, le, af, 0, 0) j).2.2.1) ((zoM L n kl pt pl (nu, le, af, 0, 0) j).2.2.2.2) (zsz (L k9))), 0, 0, 0, 0) (co, yn, yh, pa) ++ R) := hD
                refine lv_iinc (v := (nI (j + 1))) (lv' := [(2, .int (nI (j + 1))), (5, .int (nI n)), (4, .int ((zpk (fun k => zhw (zoM L n kl pt pl (nu, le, af, 0, 0) j).1 (nI k) (zoM L n kl pt pl (nu, le, af, 0, 0) j).2.2.2.1) (fun k => zwl (fun x y => zhp (zoM L n kl pt pl (nu, le, af, 0, 0) j).2.2.1 (zoM L n kl pt pl (nu, le, af, 0, 0) j).2.1 x y ((zoM L n kl pt pl (nu, le, af, 0, 0) j).2.2.2.2 - 1)) kl pt pl (L k)) n).2)), (3, .int (nI k9)), (0, .ref (h 0)), (1, .int (nI words))]) hx hb dX5_open_208 hl (k := 3) rfl (nI_add j 1) (by decide) rfl (fun ls hl => ?_)
                refine lv_goto (tgt := 48) hx hb dX5_open_211 (by decide) ?_
                have e8 : (zoM L n kl pt pl (nu, le, af, 0, 0) (j + 1)) = zpu (zoM L n kl pt pl (nu, le, af, 0, 0) j) (nI k9) (L k9) := zoM_step (by omega) e7 hwl9
                have hP : va_P D vwCl (zWM cI cJ cZ h 0 (n, L) ((zcb kt pt), (zcb km pm), (zcb kl pl)) mc (true, ((zoM L n kl pt pl (nu, le, af, 0, 0) (j + 1)).2.2.2.1), ((zoM L n kl pt pl (nu, le, af, 0, 0) (j + 1)).1), ((zoM L n kl pt pl (nu, le, af, 0, 0) (j + 1)).2.2.2.2), ((zoM L n kl pt pl (nu, le, af, 0, 0) (j + 1)).2.1), ((zoM L n kl pt pl (nu, le, af, 0, 0) (j + 1)).2.2.1), 0, 0, 0, 0) (co, yn, yh, pa) ++ R) H := by rw [e8]; exact hP
                have hD : va_D (zAb B) (zWM cI cJ cZ h 0 (n, L) ((zcb kt pt), (zcb km pm), (zcb kl pl)) mc (true, ((zoM L n kl pt pl (nu, le, af, 0, 0) (j + 1)).2.2.2.1), ((zoM L n kl pt pl (nu, le, af, 0, 0) (j + 1)).1), ((zoM L n kl pt pl (nu, le, af, 0, 0) (j + 1)).2.2.2.2), ((zoM L n kl pt pl (nu, le, af, 0, 0) (j + 1)).2.1), ((zoM L n kl pt pl (nu, le, af, 0, 0) (j + 1)).2.2.1), 0, 0, 0, 0) (co, yn, yh, pa) ++ R) := by rw [e8]; exact hD
                exact ih (j + 1) (by omega) (by omega) _ _ _ hP hD hS (lv_sub hl [0, 4, 5] rfl)
              · skip
                have c_7 : ¬ n ≤ i := fun hh => c_7 ((nI_leI (a := n) (b := i) (by omega) (by omega)).mpr hh)
                have hp9 := zok_pos (hz i (by omega))
                have h8 := zsz_le (L i)
                refine lv_aload_n hx hb dX5_open_81 rfl (lv_at hl 4 rfl) ?_
                refine lv_iload hx hb dX5_open_82 (lv_at hl 0 rfl) ?_
                refine zci (zrV (As := [.int (nI i)]) (rest := []) ⟨hx, hb, hml, hown, hts⟩ (zV 0 hP hD hK hE hB hS rfl rfl) (c_X5_isChosen  (by omega)) (cwV 1 hts gX5_open_X5_isChosen rfl rfl rfl hdv_X5_isChosen ⟨Nat.le_of_ble_eq_true rfl, Nat.le_of_ble_eq_true rfl⟩) rfl rfl hl.1 rfl (lv_room (Nat.le_of_ble_eq_true rfl)) dX5_open_84 ⟨Nat.le_of_ble_eq_true rfl, Nat.le_of_ble_eq_true rfl⟩) hS (fun H locs hP hD hS => ?_)
                have hP : va_P D vwCl (zWM cI cJ cZ h 0 (n, L) ((zcb kt pt), (zcb km pm), (zcb kl pl)) mc (true, ((zoM L n kl pt pl (nu, le, af, 0, 0) j).2.2.2.1), ((zoM L n kl pt pl (nu, le, af, 0, 0) j).1), ((zoM L n kl pt pl (nu, le, af, 0, 0) j).2.2.2.2), ((zoM L n kl pt pl (nu, le, af, 0, 0) j).2.1), ((zoM L n kl pt pl (nu, le, af, 0, 0) j).2.2.1), 0, 0, 0, 0) (co, yn, yh, pa) ++ R) _ := hP
                have hD : va_D (zAb B) (zWM cI cJ cZ h 0 (n, L) ((zcb kt pt), (zcb km pm), (zcb kl pl)) mc (true, ((zoM L n kl pt pl (nu, le, af, 0, 0) j).2.2.2.1), ((zoM L n kl pt pl (nu, le, af, 0, 0) j).1), ((zoM L n kl pt pl (nu, le, af, 0, 0) j).2.2.2.2), ((zoM L n kl pt pl (nu, le, af, 0, 0) j).2.1), ((zoM L n kl pt pl (nu, le, af, 0, 0) j).2.2.1), 0, 0, 0, 0) (co, yn, yh, pa) ++ R) := hD
                refine lv_if_eq (tgt := 93) hx hb dX5_open_87 (by decide) (fun c_8 => ?_) (fun c_8 => ?_)
                · skip
                  have c_8 : (zhw ((zoM L n kl pt pl (nu, le, af, 0, 0) j).1) (nI i) ((zoM L n kl pt pl (nu, le, af, 0, 0) j).2.2.2.1)) = false := zb_0 c_8
                  refine lv_aload_n hx hb dX5_open_93 rfl (lv_at hl 4 rfl) ?_
                  refine lv_aload_n hx hb dX5_open_94 rfl (lv_at hl 4 rfl) ?_
                  refine va_get (ci := 5) (v := .ref (h 1)) (C := RX5) (T := TX5) (N := 20) hx hb hts hinX5 hown hK hP 0 rfl rfl 2 (by decide) (hts (.fieldLink RX5 9 "TypingTutorModel" "list" "[J") (List.mem_of_getElem? (i := 5) rfl)) (fun _ h9 => h9) rfl dX5_open_95 ?_
                  refine lv_iload hx hb dX5_open_98 (lv_at hl 0 rfl) ?_
                  refine va_lald hx hb hK hP 1 1 rfl rfl (vp_in_nI (n := i) (N := 40) (by omega) (by omega)) dX5_open_100 ?_
                  rw [pk_cl (x := (nI i)) i (rfl) (by omega)]
                  refine zci (zrV (As := [.long (L i)]) (rest := []) ⟨hx, hb, hml, hown, hts⟩ (zV 0 hP hD hK hE hB hS rfl rfl) (c_X5_weightOf  (hz i (by omega))) (cwV 1 hts gX5_open_X5_weightOf rfl rfl rfl hdv_X5_weightOf ⟨Nat.le_of_ble_eq_true rfl, Nat.le_of_ble_eq_true rfl⟩) rfl rfl hl.1 rfl (lv_room (Nat.le_of_ble_eq_true rfl)) dX5_open_101 ⟨Nat.le_of_ble_eq_true rfl, Nat.le_of_ble_eq_true rfl⟩) hS (fun H locs hP hD hS => ?_)
                  have hP : va_P D vwCl (zWM cI cJ cZ h 0 (n, L) ((zcb kt pt), (zcb km pm), (zcb kl pl)) mc (true, ((zoM L n kl pt pl (nu, le, af, 0, 0) j).2.2.2.1), ((zoM L n kl pt pl (nu, le, af, 0, 0) j).1), ((zoM L n kl pt pl (nu, le, af, 0, 0) j).2.2.2.2), ((zoM L n kl pt pl (nu, le, af, 0, 0) j).2.1), ((zoM L n kl pt pl (nu, le, af, 0, 0) j).2.2.1), 0, 0, 0, 0) (co, yn, yh, pa) ++ R) _ := hP
                  have hD : va_D (zAb B) (zWM cI cJ cZ h 0 (n, L) ((zcb kt pt), (zcb km pm), (zcb kl pl)) mc (true, ((zoM L n kl pt pl (nu, le, af, 0, 0) j).2.2.2.1), ((zoM L n kl pt pl (nu, le, af, 0, 0) j).1), ((zoM L n kl pt pl (nu, le, af, 0, 0) j).2.2.2.2), ((zoM L n kl pt pl (nu, le, af, 0, 0) j).2.1), ((zoM L n kl pt pl (nu, le, af, 0, 0) j).2.2.1), 0, 0, 0, 0) (co, yn, yh, pa) ++ R) := hD
                  refine lv_istore (lv' := [(6, .int (zwg kl pt pl (L i))), (5, .int (nI i)), (4, .int ((zpk (fun k => zhw (zoM L n kl pt pl (nu, le, af, 0, 0) j).1 (nI k) (zoM L n kl pt pl (nu, le, af, 0, 0) j).2.2.2.1) (fun k => zwl (fun x y => zhp (zoM L n kl pt pl (nu, le, af, 0, 0) j).2.2.1 (zoM L n kl pt pl (nu, le, af, 0, 0) j).2.1 x y ((zoM L n kl pt pl (nu, le, af, 0, 0) j).2.2.2.2 - 1)) kl pt pl (L k)) i).2)), (3, .int ((zpk (fun k => zhw (zoM L n kl pt pl (nu, le, af, 0, 0) j).1 (nI k) (zoM L n kl pt pl (nu, le, af, 0, 0) j).2.2.2.1) (fun k => zwl (fun x y => zhp (zoM L n kl pt pl (nu, le, af, 0, 0) j).2.2.1 (zoM L n kl pt pl (nu, le, af, 0, 0) j).2.1 x y ((zoM L n kl pt pl (nu, le, af, 0, 0) j).2.2.2.2 - 1)) kl pt pl (L k)) i).1)), (2, .int (nI j)), (0, .ref (h 0)), (1, .int (nI words))]) hx hb dX5_open_104 hl (by decide) rfl (fun ls hl => ?_)
                  refine lv_iconst (v := 1) hx hb dX5_open_106 (by decide) ?_
                  refine lv_istore (lv' := [(7, .int 1), (6, .int (zwg kl pt pl (L i))), (5, .int (nI i)), (4, .int ((zpk (fun k => zhw (zoM L n kl pt pl (nu, le, af, 0, 0) j).1 (nI k) (zoM L n kl pt pl (nu, le, af, 0, 0) j).2.2.2.1) (fun k => zwl (fun x y => zhp (zoM L n kl pt pl (nu, le, af, 0, 0) j).2.2.1 (zoM L n kl pt pl (nu, le, af, 0, 0) j).2.1 x y ((zoM L n kl pt pl (nu, le, af, 0, 0) j).2.2.2.2 - 1)) kl pt pl (L k)) i).2)), (3, .int ((zpk (fun k => zhw (zoM L n kl pt pl (nu, le, af, 0, 0) j).1 (nI k) (zoM L n kl pt pl (nu, le, af, 0, 0) j).2.2.2.1) (fun k => zwl (fun x y => zhp (zoM L n kl pt pl (nu, le, af, 0, 0) j).2.2.1 (zoM L n kl pt pl (nu, le, af, 0, 0) j).2.1 x y ((zoM L n kl pt pl (nu, le, af, 0, 0) j).2.2.2.2 - 1)) kl pt pl (L k)) i).1)), (2, .int (nI j)), (0, .ref (h 0)), (1, .int (nI words))]) hx hb dX5_open_107 hl (by decide) rfl (fun ls hl => ?_)
                  refine zloop (σ := (Nat) × (Int32)) (nL := 8) (fun x9 => (zWM cI cJ cZ h 0 (n, L) ((zcb kt pt), (zcb km pm), (zcb kl pl)) mc (true, ((zoM L n kl pt pl (nu, le, af, 0, 0) j).2.2.2.1), ((zoM L n kl pt pl (nu, le, af, 0, 0) j).1), ((zoM L n kl pt pl (nu, le, af, 0, 0) j).2.2.2.2), ((zoM L n kl pt pl (nu, le, af, 0, 0) j).2.1), ((zoM L n kl pt pl (nu, le, af, 0, 0) j).2.2.1), 0, 0, 0, 0) (co, yn, yh, pa) ++ R)) (fun x9 => [(7, .int (nI (x9.1 + 1))), (6, .int x9.2), (5, .int (nI i)), (4, .int ((zpk (fun k => zhw (zoM L n kl pt pl (nu, le, af, 0, 0) j).1 (nI k) (zoM L n kl pt pl (nu, le, af, 0, 0) j).2.2.2.1) (fun k => zwl (fun x y => zhp (zoM L n kl pt pl (nu, le, af, 0, 0) j).2.2.1 (zoM L n kl pt pl (nu, le, af, 0, 0) j).2.1 x y ((zoM L n kl pt pl (nu, le, af, 0, 0) j).2.2.2.2 - 1)) kl pt pl (L k)) i).2)), (3, .int ((zpk (fun k => zhw (zoM L n kl pt pl (nu, le, af, 0, 0) j).1 (nI k) (zoM L n kl pt pl (nu, le, af, 0, 0) j).2.2.2.1) (fun k => zwl (fun x y => zhp (zoM L n kl pt pl (nu, le, af, 0, 0) j).2.2.1 (zoM L n kl pt pl (nu, le, af, 0, 0) j).2.1 x y ((zoM L n kl pt pl (nu, le, af, 0, 0) j).2.2.2.2 - 1)) kl pt pl (L k)) i).1)), (2, .int (nI j)), (0, .ref (h 0)), (1, .int (nI words))]) (fun x9 => []) (fun x9 => (x9.1 + 1 ≤ zsz (L i)) ∧ x9.2 = zwi (fun x y => zhp (zoM L n kl pt pl (nu, le, af, 0, 0) j).2.2.1 (zoM L n kl pt pl (nu, le, af, 0, 0) j).2.1 x y ((zoM L n kl pt pl (nu, le, af, 0, 0) j).2.2.2.2 - 1)) (L i) (zwg kl pt pl (L i)) x9.1) (fun x9 => zsz (L i) - x9.1) ?_ (0, zwg kl pt pl (L i)) (⟨by omega, rfl⟩) _ _ _ hP hD hS (lv_sub hl [0, 1, 2, 3, 4, 5, 6, 7] rfl)
                  rintro ⟨q8, z⟩ hI2 ih2 H locs ls hP hD hS hl
                  try dsimp only at hI2 ih2 hP hD hS hl ⊢
                  obtain ⟨hI2, rfl⟩ := hI2
                  refine lv_iload hx hb dX5_open_109 (lv_at hl 0 rfl) ?_
                  refine lv_aload_n hx hb dX5_open_111 rfl (lv_at hl 6 rfl) ?_
                  refine va_get (ci := 5) (v := .ref (h 1)) (C := RX5) (T := TX5) (N := 20) hx hb hts hinX5 hown hK hP 0 rfl rfl 2 (by decide) (hts (.fieldLink RX5 9 "TypingTutorModel" "list" "[J") (List.mem_of_getElem? (i := 5) rfl)) (fun _ h9 => h9) rfl dX5_open_112 ?_
                  refine lv_iload hx hb dX5_open_115 (lv_at hl 2 rfl) ?_
                  refine va_lald hx hb hK hP 1 1 rfl rfl (vp_in_nI (n := i) (N := 40) (by omega) (by omega)) dX5_open_117 ?_
                  rw [pk_cl (x := (nI i)) i (rfl) (by omega)]
                  refine zci (zrS (As := [.long (L i)]) (rest := [.int (nI (q8 + 1))]) ⟨hx, hb, hml, hown, hts⟩ (zS hP hD hK hE hB hS) (c_X5_size  ) (va_cwS 1 hts gX5_open_X5_size rfl rfl rfl hds_X5_size ⟨Nat.le_of_ble_eq_true rfl, Nat.le_of_ble_eq_true rfl⟩) rfl rfl hl.1 rfl (lv_room (Nat.le_of_ble_eq_true rfl)) dX5_open_118 ⟨Nat.le_of_ble_eq_true rfl, Nat.le_of_ble_eq_true rfl⟩) hS (fun H locs hP hD hS => ?_)
                  have hP : va_P D vwCl (zWM cI cJ cZ h 0 (n, L) ((zcb kt pt), (zcb km pm), (zcb kl pl)) mc (true, ((zoM L n kl pt pl (nu, le, af, 0, 0) j).2.2.2.1), ((zoM L n kl pt pl (nu, le, af, 0, 0) j).1), ((zoM L n kl pt pl (nu, le, af, 0, 0) j).2.2.2.2), ((zoM L n kl pt pl (nu, le, af, 0, 0) j).2.1), ((zoM L n kl pt pl (nu, le, af, 0, 0) j).2.2.1), 0, 0, 0, 0) (co, yn, yh, pa) ++ R) _ := hP
                  have hD : va_D (zAb B) (zWM cI cJ cZ h 0 (n, L) ((zcb kt pt), (zcb km pm), (zcb kl pl)) mc (true, ((zoM L n kl pt pl (nu, le, af, 0, 0) j).2.2.2.1), ((zoM L n kl pt pl (nu, le, af, 0, 0) j).1), ((zoM L n kl pt pl (nu, le, af, 0, 0) j).2.2.2.2), ((zoM L n kl pt pl (nu, le, af, 0, 0) j).2.1), ((zoM L n kl pt pl (nu, le, af, 0, 0) j).2.2.1), 0, 0, 0, 0) (co, yn, yh, pa) ++ R) := hD
                  refine lv_icmp_ge (tgt := 175) hx hb dX5_open_121 (by decide) (fun c_9 => ?_) (fun c_9 => ?_)
                  · skip
                    have c_9 : (zsz (L i)) ≤ (q8 + 1) := (nI_leI (a := (zsz (L i))) (b := (q8 + 1)) (by omega) (by omega)).mp c_9
                    obtain rfl : zsz (L i) - 1 = q8 := by omega
                    refine lv_iload_n hx hb dX5_open_175 rfl (lv_at hl 4 rfl) ?_
                    refine lv_iconst (v := (-1)) hx hb dX5_open_176 (by decide) ?_
                    refine lv_icmp_eq (tgt := 190) hx hb dX5_open_177 (by decide) (fun c_10 => ?_) (fun c_10 => ?_)
                    · skip
                      refine lv_iload hx hb dX5_open_190 (lv_at hl 2 rfl) ?_
                      refine lv_istore_n (lv' := [(3, .int (nI i)), (7, .int (nI ((zsz (L i) - 1) + 1))), (6, .int (zwi (fun x y => zhp (zoM L n kl pt pl (nu, le, af, 0, 0) j).2.2.1 (zoM L n kl pt pl (nu, le, af, 0, 0) j).2.1 x y ((zoM L n kl pt pl (nu, le, af, 0, 0) j).2.2.2.2 - 1)) (L i) (zwg kl pt pl (L i)) (zsz (L i) - 1))), (5, .int (nI i)), (4, .int ((zpk (fun k => zhw (zoM L n kl pt pl (nu, le, af, 0, 0) j).1 (nI k) (zoM L n kl pt pl (nu, le, af, 0, 0) j).2.2.2.1) (fun k => zwl (fun x y => zhp (zoM L n kl pt pl (nu, le, af, 0, 0) j).2.2.1 (zoM L n kl pt pl (nu, le, af, 0, 0) j).2.1 x y ((zoM L n kl pt pl (nu, le, af, 0, 0) j).2.2.2.2 - 1)) kl pt pl (L k)) i).2)), (2, .int (nI j)), (0, .ref (h 0)), (1, .int (nI words))]) hx hb dX5_open_192 rfl hl (by decide) rfl (fun ls hl => ?_)
                      refine lv_iload hx hb dX5_open_193 (lv_at hl 2 rfl) ?_
                      refine lv_istore (lv' := [(4, .int (zwi (fun x y => zhp (zoM L n kl pt pl (nu, le, af, 0, 0) j).2.2.1 (zoM L n kl pt pl (nu, le, af, 0, 0) j).2.1 x y ((zoM L n kl pt pl (nu, le, af, 0, 0) j).2.2.2.2 - 1)) (L i) (zwg kl pt pl (L i)) (zsz (L i) - 1))), (3, .int (nI i)), (7, .int (nI ((zsz (L i) - 1) + 1))), (6, .int (zwi (fun x y => zhp (zoM L n kl pt pl (nu, le, af, 0, 0) j).2.2.1 (zoM L n kl pt pl (nu, le, af, 0, 0) j).2.1 x y ((zoM L n kl pt pl (nu, le, af, 0, 0) j).2.2.2.2 - 1)) (L i) (zwg kl pt pl (L i)) (zsz (L i) - 1))), (5, .int (nI i)), (2, .int (nI j)), (0, .ref (h 0)), (1, .int (nI words))]) hx hb dX5_open_195 hl (by decide) rfl (fun ls hl => ?_)
                      refine lv_iinc (v := (nI (i + 1))) (lv' := [(5, .int (nI (i + 1))), (4, .int (zwi (fun x y => zhp (zoM L n kl pt pl (nu, le, af, 0, 0) j).2.2.1 (zoM L n kl pt pl (nu, le, af, 0, 0) j).2.1 x y ((zoM L n kl pt pl (nu, le, af, 0, 0) j).2.2.2.2 - 1)) (L i) (zwg kl pt pl (L i)) (zsz (L i) - 1))), (3, .int (nI i)), (7, .int (nI ((zsz (L i) - 1) + 1))), (6, .int (zwi (fun x y => zhp (zoM L n kl pt pl (nu, le, af, 0, 0) j).2.2.1 (zoM L n kl pt pl (nu, le, af, 0, 0) j).2.1 x y ((zoM L n kl pt pl (nu, le, af, 0, 0) j).2.2.2.2 - 1)) (L i) (zwg kl pt pl (L i)) (zsz (L i) - 1))), (2, .int (nI j)), (0, .ref (h 0)), (1, .int (nI words))]) hx hb dX5_open_197 hl (k := 4) rfl (nI_add i 1) (by decide) rfl (fun ls hl => ?_)
                      refine lv_goto (tgt := 72) hx hb dX5_open_200 (by decide) ?_
                      exact ih1 (i + 1, (nI i), (zwi (fun x y => zhp (zoM L n kl pt pl (nu, le, af, 0, 0) j).2.2.1 (zoM L n kl pt pl (nu, le, af, 0, 0) j).2.1 x y ((zoM L n kl pt pl (nu, le, af, 0, 0) j).2.2.2.2 - 1)) (L i) (zwg kl pt pl (L i)) (zsz (L i) - 1))) (⟨by omega, (congrArg Prod.fst (zpk_s2 (ch := (fun k => zhw (zoM L n kl pt pl (nu, le, af, 0, 0) j).1 (nI k) (zoM L n kl pt pl (nu, le, af, 0, 0) j).2.2.2.1)) (wt := (fun k => zwl (fun x y => zhp (zoM L n kl pt pl (nu, le, af, 0, 0) j).2.2.1 (zoM L n kl pt pl (nu, le, af, 0, 0) j).2.1 x y ((zoM L n kl pt pl (nu, le, af, 0, 0) j).2.2.2.2 - 1)) kl pt pl (L k))) (k := i) c_8 (Or.inl c_10))).symm, (congrArg Prod.snd (zpk_s2 (ch := (fun k => zhw (zoM L n kl pt pl (nu, le, af, 0, 0) j).1 (nI k) (zoM L n kl pt pl (nu, le, af, 0, 0) j).2.2.2.1)) (wt := (fun k => zwl (fun x y => zhp (zoM L n kl pt pl (nu, le, af, 0, 0) j).2.2.1 (zoM L n kl pt pl (nu, le, af, 0, 0) j).2.1 x y ((zoM L n kl pt pl (nu, le, af, 0, 0) j).2.2.2.2 - 1)) kl pt pl (L k))) (k := i) c_8 (Or.inl c_10))).symm⟩) (by omega) _ _ _ hP hD hS (lv_sub hl [0, 1, 2, 5, 6, 7] rfl)
                    · skip
                      refine lv_iload hx hb dX5_open_180 (lv_at hl 1 rfl) ?_
                      refine lv_iload hx hb dX5_open_182 (lv_at hl 3 rfl) ?_
                      refine lv_icmp_gt (tgt := 190) hx hb dX5_open_184 (by decide) (fun c_11 => ?_) (fun c_11 => ?_)
                      · skip
                        refine lv_iload hx hb dX5_open_190 (lv_at hl 2 rfl) ?_
                        refine lv_istore_n (lv' := [(3, .int (nI i)), (7, .int (nI ((zsz (L i) - 1) + 1))), (6, .int (zwi (fun x y => zhp (zoM L n kl pt pl (nu, le, af, 0, 0) j).2.2.1 (zoM L n kl pt pl (nu, le, af, 0, 0) j).2.1 x y ((zoM L n kl pt pl (nu, le, af, 0, 0) j).2.2.2.2 - 1)) (L i) (zwg kl pt pl (L i)) (zsz (L i) - 1))), (5, .int (nI i)), (4, .int ((zpk (fun k => zhw (zoM L n kl pt pl (nu, le, af, 0, 0) j).1 (nI k) (zoM L n kl pt pl (nu, le, af, 0, 0) j).2.2.2.1) (fun k => zwl (fun x y => zhp (zoM L n kl pt pl (nu, le, af, 0, 0) j).2.2.1 (zoM L n kl pt pl (nu, le, af, 0, 0) j).2.1 x y ((zoM L n kl pt pl (nu, le, af, 0, 0) j).2.2.2.2 - 1)) kl pt pl (L k)) i).2)), (2, .int (nI j)), (0, .ref (h 0)), (1, .int (nI words))]) hx hb dX5_open_192 rfl hl (by decide) rfl (fun ls hl => ?_)
                        refine lv_iload hx hb dX5_open_193 (lv_at hl 2 rfl) ?_
                        refine lv_istore (lv' := [(4, .int (zwi (fun x y => zhp (zoM L n kl pt pl (nu, le, af, 0, 0) j).2.2.1 (zoM L n kl pt pl (nu, le, af, 0, 0) j).2.1 x y ((zoM L n kl pt pl (nu, le, af, 0, 0) j).2.2.2.2 - 1)) (L i) (zwg kl pt pl (L i)) (zsz (L i) - 1))), (3, .int (nI i)), (7, .int (nI ((zsz (L i) - 1) + 1))), (6, .int (zwi (fun x y => zhp (zoM L n kl pt pl (nu, le, af, 0, 0) j).2.2.1 (zoM L n kl pt pl (nu, le, af, 0, 0) j).2.1 x y ((zoM L n kl pt pl (nu, le, af, 0, 0) j).2.2.2.2 - 1)) (L i) (zwg kl pt pl (L i)) (zsz (L i) - 1))), (5, .int (nI i)), (2, .int (nI j)), (0, .ref (h 0)), (1, .int (nI words))]) hx hb dX5_open_195 hl (by decide) rfl (fun ls hl => ?_)
                        refine lv_iinc (v := (nI (i + 1))) (lv' := [(5, .int (nI (i + 1))), (4, .int (zwi (fun x y => zhp (zoM L n kl pt pl (nu, le, af, 0, 0) j).2.2.1 (zoM L n kl pt pl (nu, le, af, 0, 0) j).2.1 x y ((zoM L n kl pt pl (nu, le, af, 0, 0) j).2.2.2.2 - 1)) (L i) (zwg kl pt pl (L i)) (zsz (L i) - 1))), (3, .int (nI i)), (7, .int (nI ((zsz (L i) - 1) + 1))), (6, .int (zwi (fun x y => zhp (zoM L n kl pt pl (nu, le, af, 0, 0) j).2.2.1 (zoM L n kl pt pl (nu, le, af, 0, 0) j).2.1 x y ((zoM L n kl pt pl (nu, le, af, 0, 0) j).2.2.2.2 - 1)) (L i) (zwg kl pt pl (L i)) (zsz (L i) - 1))), (2, .int (nI j)), (0, .ref (h 0)), (1, .int (nI words))]) hx hb dX5_open_197 hl (k := 4) rfl (nI_add i 1) (by decide) rfl (fun ls hl => ?_)
                        refine lv_goto (tgt := 72) hx hb dX5_open_200 (by decide) ?_
                        exact ih1 (i + 1, (nI i), (zwi (fun x y => zhp (zoM L n kl pt pl (nu, le, af, 0, 0) j).2.2.1 (zoM L n kl pt pl (nu, le, af, 0, 0) j).2.1 x y ((zoM L n kl pt pl (nu, le, af, 0, 0) j).2.2.2.2 - 1)) (L i) (zwg kl pt pl (L i)) (zsz (L i) - 1))) (⟨by omega, (congrArg Prod.fst (zpk_s2 (ch := (fun k => zhw (zoM L n kl pt pl (nu, le, af, 0, 0) j).1 (nI k) (zoM L n kl pt pl (nu, le, af, 0, 0) j).2.2.2.1)) (wt := (fun k => zwl (fun x y => zhp (zoM L n kl pt pl (nu, le, af, 0, 0) j).2.2.1 (zoM L n kl pt pl (nu, le, af, 0, 0) j).2.1 x y ((zoM L n kl pt pl (nu, le, af, 0, 0) j).2.2.2.2 - 1)) kl pt pl (L k))) (k := i) c_8 (Or.inr c_11))).symm, (congrArg Prod.snd (zpk_s2 (ch := (fun k => zhw (zoM L n kl pt pl (nu, le, af, 0, 0) j).1 (nI k) (zoM L n kl pt pl (nu, le, af, 0, 0) j).2.2.2.1)) (wt := (fun k => zwl (fun x y => zhp (zoM L n kl pt pl (nu, le, af, 0, 0) j).2.2.1 (zoM L n kl pt pl (nu, le, af, 0, 0) j).2.1 x y ((zoM L n kl pt pl (nu, le, af, 0, 0) j).2.2.2.2 - 1)) kl pt pl (L k))) (k := i) c_8 (Or.inr c_11))).symm⟩) (by omega) _ _ _ hP hD hS (lv_sub hl [0, 1, 2, 5, 6, 7] rfl)
                      · skip
                        refine lv_goto (tgt := 197) hx hb dX5_open_187 (by decide) ?_
                        refine lv_iinc (v := (nI (i + 1))) (lv' := [(5, .int (nI (i + 1))), (7, .int (nI ((zsz (L i) - 1) + 1))), (6, .int (zwi (fun x y => zhp (zoM L n kl pt pl (nu, le, af, 0, 0) j).2.2.1 (zoM L n kl pt pl (nu, le, af, 0, 0) j).2.1 x y ((zoM L n kl pt pl (nu, le, af, 0, 0) j).2.2.2.2 - 1)) (L i) (zwg kl pt pl (L i)) (zsz (L i) - 1))), (4, .int ((zpk (fun k => zhw (zoM L n kl pt pl (nu, le, af, 0, 0) j).1 (nI k) (zoM L n kl pt pl (nu, le, af, 0, 0) j).2.2.2.1) (fun k => zwl (fun x y => zhp (zoM L n kl pt pl (nu, le, af, 0, 0) j).2.2.1 (zoM L n kl pt pl (nu, le, af, 0, 0) j).2.1 x y ((zoM L n kl pt pl (nu, le, af, 0, 0) j).2.2.2.2 - 1)) kl pt pl (L k)) i).2)), (3, .int ((zpk (fun k => zhw (zoM L n kl pt pl (nu, le, af, 0, 0) j).1 (nI k) (zoM L n kl pt pl (nu, le, af, 0, 0) j).2.2.2.1) (fun k => zwl (fun x y => zhp (zoM L n kl pt pl (nu, le, af, 0, 0) j).2.2.1 (zoM L n kl pt pl (nu, le, af, 0, 0) j).2.1 x y ((zoM L n kl pt pl (nu, le, af, 0, 0) j).2.2.2.2 - 1)) kl pt pl (L k)) i).1)), (2, .int (nI j)), (0, .ref (h 0)), (1, .int (nI words))]) hx hb dX5_open_197 hl (k := 2) rfl (nI_add i 1) (by decide) rfl (fun ls hl => ?_)
                        refine lv_goto (tgt := 72) hx hb dX5_open_200 (by decide) ?_
                        exact ih1 (i + 1, ((zpk (fun k => zhw (zoM L n kl pt pl (nu, le, af, 0, 0) j).1 (nI k) (zoM L n kl pt pl (nu, le, af, 0, 0) j).2.2.2.1) (fun k => zwl (fun x y => zhp (zoM L n kl pt pl (nu, le, af, 0, 0) j).2.2.1 (zoM L n kl pt pl (nu, le, af, 0, 0) j).2.1 x y ((zoM L n kl pt pl (nu, le, af, 0, 0) j).2.2.2.2 - 1)) kl pt pl (L k)) i).1), ((zpk (fun k => zhw (zoM L n kl pt pl (nu, le, af, 0, 0) j).1 (nI k) (zoM L n kl pt pl (nu, le, af, 0, 0) j).2.2.2.1) (fun k => zwl (fun x y => zhp (zoM L n kl pt pl (nu, le, af, 0, 0) j).2.2.1 (zoM L n kl pt pl (nu, le, af, 0, 0) j).2.1 x y ((zoM L n kl pt pl (nu, le, af, 0, 0) j).2.2.2.2 - 1)) kl pt pl (L k)) i).2)) (⟨by omega, (congrArg Prod.fst (zpk_s3 (ch := (fun k => zhw (zoM L n kl pt pl (nu, le, af, 0, 0) j).1 (nI k) (zoM L n kl pt pl (nu, le, af, 0, 0) j).2.2.2.1)) (wt := (fun k => zwl (fun x y => zhp (zoM L n kl pt pl (nu, le, af, 0, 0) j).2.2.1 (zoM L n kl pt pl (nu, le, af, 0, 0) j).2.1 x y ((zoM L n kl pt pl (nu, le, af, 0, 0) j).2.2.2.2 - 1)) kl pt pl (L k))) (k := i) c_8 c_10 c_11)).symm, (congrArg Prod.snd (zpk_s3 (ch := (fun k => zhw (zoM L n kl pt pl (nu, le, af, 0, 0) j).1 (nI k) (zoM L n kl pt pl (nu, le, af, 0, 0) j).2.2.2.1)) (wt := (fun k => zwl (fun x y => zhp (zoM L n kl pt pl (nu, le, af, 0, 0) j).2.2.1 (zoM L n kl pt pl (nu, le, af, 0, 0) j).2.1 x y ((zoM L n kl pt pl (nu, le, af, 0, 0) j).2.2.2.2 - 1)) kl pt pl (L k))) (k := i) c_8 c_10 c_11)).symm⟩) (by omega) _ _ _ hP hD hS (lv_sub hl [0, 3, 4, 5, 6, 7] rfl)
                  · skip
                    have c_9 : ¬ (zsz (L i)) ≤ (q8 + 1) := fun hh => c_9 ((nI_leI (a := (zsz (L i))) (b := (q8 + 1)) (by omega) (by omega)).mpr hh)
                    refine lv_iload hx hb dX5_open_124 (lv_at hl 1 rfl) ?_
                    refine lv_aload_n hx hb dX5_open_126 rfl (lv_at hl 6 rfl) ?_
                    refine lv_aload_n hx hb dX5_open_127 rfl (lv_at hl 6 rfl) ?_
                    refine va_get (ci := 5) (v := .ref (h 1)) (C := RX5) (T := TX5) (N := 20) hx hb hts hinX5 hown hK hP 0 rfl rfl 2 (by decide) (hts (.fieldLink RX5 9 "TypingTutorModel" "list" "[J") (List.mem_of_getElem? (i := 5) rfl)) (fun _ h9 => h9) rfl dX5_open_128 ?_
                    refine lv_iload hx hb dX5_open_131 (lv_at hl 2 rfl) ?_
                    refine va_lald hx hb hK hP 1 1 rfl rfl (vp_in_nI (n := i) (N := 40) (by omega) (by omega)) dX5_open_133 ?_
                    rw [pk_cl (x := (nI i)) i (rfl) (by omega)]
                    refine lv_iload hx hb dX5_open_134 (lv_at hl 0 rfl) ?_
                    refine lv_iconst (v := 1) hx hb dX5_open_136 (by decide) ?_
                    refine lv_isub hx hb dX5_open_137 ?_
                    refine lv_topi (fun v_12 ev_12 => ?_)
                    obtain rfl : v_12 = (nI q8) := ev_12.trans ((pk_sub (a := (q8 + 1)) (b := 1) (by omega)).trans (congrArg nI (by omega)))
                    refine zci (zrS (As := [.long (L i), .int (nI q8)]) (rest := [.ref (h 0), .int (zwi (fun x y => zhp (zoM L n kl pt pl (nu, le, af, 0, 0) j).2.2.1 (zoM L n kl pt pl (nu, le, af, 0, 0) j).2.1 x y ((zoM L n kl pt pl (nu, le, af, 0, 0) j).2.2.2.2 - 1)) (L i) (zwg kl pt pl (L i)) q8)]) ⟨hx, hb, hml, hown, hts⟩ (zS hP hD hK hE hB hS) (c_X5_letter (k := q8) (by omega)) (va_cwS 2 hts gX5_open_X5_letter rfl rfl rfl hds_X5_letter ⟨Nat.le_of_ble_eq_true rfl, Nat.le_of_ble_eq_true rfl⟩) rfl rfl hl.1 rfl (lv_room (Nat.le_of_ble_eq_true rfl)) dX5_open_138 ⟨Nat.le_of_ble_eq_true rfl, Nat.le_of_ble_eq_true rfl⟩) hS (fun H locs hP hD hS => ?_)
                    have hP : va_P D vwCl (zWM cI cJ cZ h 0 (n, L) ((zcb kt pt), (zcb km pm), (zcb kl pl)) mc (true, ((zoM L n kl pt pl (nu, le, af, 0, 0) j).2.2.2.1), ((zoM L n kl pt pl (nu, le, af, 0, 0) j).1), ((zoM L n kl pt pl (nu, le, af, 0, 0) j).2.2.2.2), ((zoM L n kl pt pl (nu, le, af, 0, 0) j).2.1), ((zoM L n kl pt pl (nu, le, af, 0, 0) j).2.2.1), 0, 0, 0, 0) (co, yn, yh, pa) ++ R) _ := hP
                    have hD : va_D (zAb B) (zWM cI cJ cZ h 0 (n, L) ((zcb kt pt), (zcb km pm), (zcb kl pl)) mc (true, ((zoM L n kl pt pl (nu, le, af, 0, 0) j).2.2.2.1), ((zoM L n kl pt pl (nu, le, af, 0, 0) j).1), ((zoM L n kl pt pl (nu, le, af, 0, 0) j).2.2.2.2), ((zoM L n kl pt pl (nu, le, af, 0, 0) j).2.1), ((zoM L n kl pt pl (nu, le, af, 0, 0) j).2.2.1), 0, 0, 0, 0) (co, yn, yh, pa) ++ R) := hD
                    refine lv_aload_n hx hb dX5_open_141 rfl (lv_at hl 6 rfl) ?_
                    refine va_get (ci := 5) (v := .ref (h 1)) (C := RX5) (T := TX5) (N := 20) hx hb hts hinX5 hown hK hP 0 rfl rfl 2 (by decide) (hts (.fieldLink RX5 9 "TypingTutorModel" "list" "[J") (List.mem_of_getElem? (i := 5) rfl)) (fun _ h9 => h9) rfl dX5_open_142 ?_
                    refine lv_iload hx hb dX5_open_145 (lv_at hl 2 rfl) ?_
                    refine va_lald hx hb hK hP 1 1 rfl rfl (vp_in_nI (n := i) (N := 40) (by omega) (by omega)) dX5_open_147 ?_
                    rw [pk_cl (x := (nI i)) i (rfl) (by omega)]
                    refine lv_iload hx hb dX5_open_148 (lv_at hl 0 rfl) ?_
                    refine zci (zrS (As := [.long (L i), .int (nI (q8 + 1))]) (rest := [.int (zlt (L i) (zsz (L i) - 1 - q8)), .ref (h 0), .int (zwi (fun x y => zhp (zoM L n kl pt pl (nu, le, af, 0, 0) j).2.2.1 (zoM L n kl pt pl (nu, le, af, 0, 0) j).2.1 x y ((zoM L n kl pt pl (nu, le, af, 0, 0) j).2.2.2.2 - 1)) (L i) (zwg kl pt pl (L i)) q8)]) ⟨hx, hb, hml, hown, hts⟩ (zS hP hD hK hE hB hS) (c_X5_letter (k := (q8 + 1)) (by omega)) (va_cwS 2 hts gX5_open_X5_letter rfl rfl rfl hds_X5_letter ⟨Nat.le_of_ble_eq_true rfl, Nat.le_of_ble_eq_true rfl⟩) rfl rfl hl.1 rfl (lv_room (Nat.le_of_ble_eq_true rfl)) dX5_open_150 ⟨Nat.le_of_ble_eq_true rfl, Nat.le_of_ble_eq_true rfl⟩) hS (fun H locs hP hD hS => ?_)
                    have hP : va_P D vwCl (zWM cI cJ cZ h 0 (n, L) ((zcb kt pt), (zcb km pm), (zcb kl pl)) mc (true, ((zoM L n kl pt pl (nu, le, af, 0, 0) j).2.2.2.1), ((zoM L n kl pt pl (nu, le, af, 0, 0) j).1), ((zoM L n kl pt pl (nu, le, af, 0, 0) j).2.2.2.2), ((zoM L n kl pt pl (nu, le, af, 0, 0) j).2.1), ((zoM L n kl pt pl (nu, le, af, 0, 0) j).2.2.1), 0, 0, 0, 0) (co, yn, yh, pa) ++ R) _ := hP
                    have hD : va_D (zAb B) (zWM cI cJ cZ h 0 (n, L) ((zcb kt pt), (zcb km pm), (zcb kl pl)) mc (true, ((zoM L n kl pt pl (nu, le, af, 0, 0) j).2.2.2.1), ((zoM L n kl pt pl (nu, le, af, 0, 0) j).1), ((zoM L n kl pt pl (nu, le, af, 0, 0) j).2.2.2.2), ((zoM L n kl pt pl (nu, le, af, 0, 0) j).2.1), ((zoM L n kl pt pl (nu, le, af, 0, 0) j).2.2.1), 0, 0, 0, 0) (co, yn, yh, pa) ++ R) := hD
                    refine zci (zrV (As := [.int (zlt (L i) (zsz (L i) - 1 - q8)), .int (zlt (L i) (zsz (L i) - 1 - (q8 + 1)))]) (rest := [.int (zwi (fun x y => zhp (zoM L n kl pt pl (nu, le, af, 0, 0) j).2.2.1 (zoM L n kl pt pl (nu, le, af, 0, 0) j).2.1 x y ((zoM L n kl pt pl (nu, le, af, 0, 0) j).2.2.2.2 - 1)) (L i) (zwg kl pt pl (L i)) q8)]) ⟨hx, hb, hml, hown, hts⟩ (zV 0 hP hD hK hE hB hS rfl rfl) (c_X5_hasPair  (by omega)) (cwV 2 hts gX5_open_X5_hasPair rfl rfl rfl hdv_X5_hasPair ⟨Nat.le_of_ble_eq_true rfl, Nat.le_of_ble_eq_true rfl⟩) rfl rfl hl.1 rfl (lv_room (Nat.le_of_ble_eq_true rfl)) dX5_open_153 ⟨Nat.le_of_ble_eq_true rfl, Nat.le_of_ble_eq_true rfl⟩) hS (fun H locs hP hD hS => ?_)
                    have hP : va_P D vwCl (zWM cI cJ cZ h 0 (n, L) ((zcb kt pt), (zcb km pm), (zcb kl pl)) mc (true, ((zoM L n kl pt pl (nu, le, af, 0, 0) j).2.2.2.1), ((zoM L n kl pt pl (nu, le, af, 0, 0) j).1), ((zoM L n kl pt pl (nu, le, af, 0, 0) j).2.2.2.2), ((zoM L n kl pt pl (nu, le, af, 0, 0) j).2.1), ((zoM L n kl pt pl (nu, le, af, 0, 0) j).2.2.1), 0, 0, 0, 0) (co, yn, yh, pa) ++ R) _ := hP
                    have hD : va_D (zAb B) (zWM cI cJ cZ h 0 (n, L) ((zcb kt pt), (zcb km pm), (zcb kl pl)) mc (true, ((zoM L n kl pt pl (nu, le, af, 0, 0) j).2.2.2.1), ((zoM L n kl pt pl (nu, le, af, 0, 0) j).1), ((zoM L n kl pt pl (nu, le, af, 0, 0) j).2.2.2.2), ((zoM L n kl pt pl (nu, le, af, 0, 0) j).2.1), ((zoM L n kl pt pl (nu, le, af, 0, 0) j).2.2.1), 0, 0, 0, 0) (co, yn, yh, pa) ++ R) := hD
                    refine lv_if_eq (tgt := 165) hx hb dX5_open_156 (by decide) (fun c_13 => ?_) (fun c_13 => ?_)
                    · skip
                      have c_13 : (zhp ((zoM L n kl pt pl (nu, le, af, 0, 0) j).2.2.1) ((zoM L n kl pt pl (nu, le, af, 0, 0) j).2.1) (zlt (L i) (zsz (L i) - 1 - q8)) (zlt (L i) (zsz (L i) - 1 - (q8 + 1))) (((zoM L n kl pt pl (nu, le, af, 0, 0) j).2.2.2.2) - 1)) = false := zb_0 c_13
                      refine lv_iconst (v := 0) hx hb dX5_open_165 (by decide) ?_
                      refine lv_isub hx hb dX5_open_166 ?_
                      refine lv_istore (lv' := [(6, .int ((zwi (fun x y => zhp (zoM L n kl pt pl (nu, le, af, 0, 0) j).2.2.1 (zoM L n kl pt pl (nu, le, af, 0, 0) j).2.1 x y ((zoM L n kl pt pl (nu, le, af, 0, 0) j).2.2.2.2 - 1)) (L i) (zwg kl pt pl (L i)) q8) - 0)), (7, .int (nI (q8 + 1))), (5, .int (nI i)), (4, .int ((zpk (fun k => zhw (zoM L n kl pt pl (nu, le, af, 0, 0) j).1 (nI k) (zoM L n kl pt pl (nu, le, af, 0, 0) j).2.2.2.1) (fun k => zwl (fun x y => zhp (zoM L n kl pt pl (nu, le, af, 0, 0) j).2.2.1 (zoM L n kl pt pl (nu, le, af, 0, 0) j).2.1 x y ((zoM L n kl pt pl (nu, le, af, 0, 0) j).2.2.2.2 - 1)) kl pt pl (L k)) i).2)), (3, .int ((zpk (fun k => zhw (zoM L n kl pt pl (nu, le, af, 0, 0) j).1 (nI k) (zoM L n kl pt pl (nu, le, af, 0, 0) j).2.2.2.1) (fun k => zwl (fun x y => zhp (zoM L n kl pt pl (nu, le, af, 0, 0) j).2.2.1 (zoM L n kl pt pl (nu, le, af, 0, 0) j).2.1 x y ((zoM L n kl pt pl (nu, le, af, 0, 0) j).2.2.2.2 - 1)) kl pt pl (L k)) i).1)), (2, .int (nI j)), (0, .ref (h 0)), (1, .int (nI words))]) hx hb dX5_open_167 hl (by decide) rfl (fun ls hl => ?_)
                      refine lv_iinc (v := (nI ((q8 + 1) + 1))) (lv' := [(7, .int (nI ((q8 + 1) + 1))), (6, .int ((zwi (fun x y => zhp (zoM L n kl pt pl (nu, le, af, 0, 0) j).2.2.1 (zoM L n kl pt pl (nu, le, af, 0, 0) j).2.1 x y ((zoM L n kl pt pl (nu, le, af, 0, 0) j).2.2.2.2 - 1)) (L i) (zwg kl pt pl (L i)) q8) - 0)), (5, .int (nI i)), (4, .int ((zpk (fun k => zhw (zoM L n kl pt pl (nu, le, af, 0, 0) j).1 (nI k) (zoM L n kl pt pl (nu, le, af, 0, 0) j).2.2.2.1) (fun k => zwl (fun x y => zhp (zoM L n kl pt pl (nu, le, af, 0, 0) j).2.2.1 (zoM L n kl pt pl (nu, le, af, 0, 0) j).2.1 x y ((zoM L n kl pt pl (nu, le, af, 0, 0) j).2.2.2.2 - 1)) kl pt pl (L k)) i).2)), (3, .int ((zpk (fun k => zhw (zoM L n kl pt pl (nu, le, af, 0, 0) j).1 (nI k) (zoM L n kl pt pl (nu, le, af, 0, 0) j).2.2.2.1) (fun k => zwl (fun x y => zhp (zoM L n kl pt pl (nu, le, af, 0, 0) j).2.2.1 (zoM L n kl pt pl (nu, le, af, 0, 0) j).2.1 x y ((zoM L n kl pt pl (nu, le, af, 0, 0) j).2.2.2.2 - 1)) kl pt pl (L k)) i).1)), (2, .int (nI j)), (0, .ref (h 0)), (1, .int (nI words))]) hx hb dX5_open_169 hl (k := 1) rfl (nI_add (q8 + 1) 1) (by decide) rfl (fun ls hl => ?_)
                      refine lv_goto (tgt := 109) hx hb dX5_open_172 (by decide) ?_
                      exact ih2 (q8 + 1, ((zwi (fun x y => zhp (zoM L n kl pt pl (nu, le, af, 0, 0) j).2.2.1 (zoM L n kl pt pl (nu, le, af, 0, 0) j).2.1 x y ((zoM L n kl pt pl (nu, le, af, 0, 0) j).2.2.2.2 - 1)) (L i) (zwg kl pt pl (L i)) q8) - 0)) (⟨by omega, (Int32.sub_zero _).trans (if_neg (fun hh => Bool.noConfusion (hh.symm.trans c_13))).symm⟩) (by omega) _ _ _ hP hD hS (lv_sub hl [0, 1, 2, 3, 4, 5, 6, 7] rfl)
                    · skip
                      have c_13 : (zhp ((zoM L n kl pt pl (nu, le, af, 0, 0) j).2.2.1) ((zoM L n kl pt pl (nu, le, af, 0, 0) j).2.1) (zlt (L i) (zsz (L i) - 1 - q8)) (zlt (L i) (zsz (L i) - 1 - (q8 + 1))) (((zoM L n kl pt pl (nu, le, af, 0, 0) j).2.2.2.2) - 1)) = true := zb_n c_13
                      refine lv_sipush (v := 150) hx hb dX5_open_159 (by decide) ?_
                      refine lv_goto (tgt := 166) hx hb dX5_open_162 (by decide) ?_
                      refine lv_isub hx hb dX5_open_166 ?_
                      refine lv_istore (lv' := [(6, .int ((zwi (fun x y => zhp (zoM L n kl pt pl (nu, le, af, 0, 0) j).2.2.1 (zoM L n kl pt pl (nu, le, af, 0, 0) j).2.1 x y ((zoM L n kl pt pl (nu, le, af, 0, 0) j).2.2.2.2 - 1)) (L i) (zwg kl pt pl (L i)) q8) - 150)), (7, .int (nI (q8 + 1))), (5, .int (nI i)), (4, .int ((zpk (fun k => zhw (zoM L n kl pt pl (nu, le, af, 0, 0) j).1 (nI k) (zoM L n kl pt pl (nu, le, af, 0, 0) j).2.2.2.1) (fun k => zwl (fun x y => zhp (zoM L n kl pt pl (nu, le, af, 0, 0) j).2.2.1 (zoM L n kl pt pl (nu, le, af, 0, 0) j).2.1 x y ((zoM L n kl pt pl (nu, le, af, 0, 0) j).2.2.2.2 - 1)) kl pt pl (L k)) i).2)), (3, .int ((zpk (fun k => zhw (zoM L n kl pt pl (nu, le, af, 0, 0) j).1 (nI k) (zoM L n kl pt pl (nu, le, af, 0, 0) j).2.2.2.1) (fun k => zwl (fun x y => zhp (zoM L n kl pt pl (nu, le, af, 0, 0) j).2.2.1 (zoM L n kl pt pl (nu, le, af, 0, 0) j).2.1 x y ((zoM L n kl pt pl (nu, le, af, 0, 0) j).2.2.2.2 - 1)) kl pt pl (L k)) i).1)), (2, .int (nI j)), (0, .ref (h 0)), (1, .int (nI words))]) hx hb dX5_open_167 hl (by decide) rfl (fun ls hl => ?_)
                      refine lv_iinc (v := (nI ((q8 + 1) + 1))) (lv' := [(7, .int (nI ((q8 + 1) + 1))), (6, .int ((zwi (fun x y => zhp (zoM L n kl pt pl (nu, le, af, 0, 0) j).2.2.1 (zoM L n kl pt pl (nu, le, af, 0, 0) j).2.1 x y ((zoM L n kl pt pl (nu, le, af, 0, 0) j).2.2.2.2 - 1)) (L i) (zwg kl pt pl (L i)) q8) - 150)), (5, .int (nI i)), (4, .int ((zpk (fun k => zhw (zoM L n kl pt pl (nu, le, af, 0, 0) j).1 (nI k) (zoM L n kl pt pl (nu, le, af, 0, 0) j).2.2.2.1) (fun k => zwl (fun x y => zhp (zoM L n kl pt pl (nu, le, af, 0, 0) j).2.2.1 (zoM L n kl pt pl (nu, le, af, 0, 0) j).2.1 x y ((zoM L n kl pt pl (nu, le, af, 0, 0) j).2.2.2.2 - 1)) kl pt pl (L k)) i).2)), (3, .int ((zpk (fun k => zhw (zoM L n kl pt pl (nu, le, af, 0, 0) j).1 (nI k) (zoM L n kl pt pl (nu, le, af, 0, 0) j).2.2.2.1) (fun k => zwl (fun x y => zhp (zoM L n kl pt pl (nu, le, af, 0, 0) j).2.2.1 (zoM L n kl pt pl (nu, le, af, 0, 0) j).2.1 x y ((zoM L n kl pt pl (nu, le, af, 0, 0) j).2.2.2.2 - 1)) kl pt pl (L k)) i).1)), (2, .int (nI j)), (0, .ref (h 0)), (1, .int (nI words))]) hx hb dX5_open_169 hl (k := 1) rfl (nI_add (q8 + 1) 1) (by decide) rfl (fun ls hl => ?_)
                      refine lv_goto (tgt := 109) hx hb dX5_open_172 (by decide) ?_
                      exact ih2 (q8 + 1, ((zwi (fun x y => zhp (zoM L n kl pt pl (nu, le, af, 0, 0) j).2.2.1 (zoM L n kl pt pl (nu, le, af, 0, 0) j).2.1 x y ((zoM L n kl pt pl (nu, le, af, 0, 0) j).2.2.2.2 - 1)) (L i) (zwg kl pt pl (L i)) q8) - 150)) (⟨by omega, (Int32.sub_eq_add_neg _ _).trans (if_pos c_13).symm⟩) (by omega) _ _ _ hP hD hS (lv_sub hl [0, 1, 2, 3, 4, 5, 6, 7] rfl)
                · skip
                  have c_8 : (zhw ((zoM L n kl pt pl (nu, le, af, 0, 0) j).1) (nI i) ((zoM L n kl pt pl (nu, le, af, 0, 0) j).2.2.2.1)) = true := zb_n c_8
                  refine lv_goto (tgt := 197) hx hb dX5_open_90 (by decide) ?_
                  refine lv_iinc (v := (nI (i + 1))) (lv' := [(5, .int (nI (i + 1))), (4, .int ((zpk (fun k => zhw (zoM L n kl pt pl (nu, le, af, 0, 0) j).1 (nI k) (zoM L n kl pt pl (nu, le, af, 0, 0) j).2.2.2.1) (fun k => zwl (fun x y => zhp (zoM L n kl pt pl (nu, le, af, 0, 0) j).2.2.1 (zoM L n kl pt pl (nu, le, af, 0, 0) j).2.1 x y ((zoM L n kl pt pl (nu, le, af, 0, 0) j).2.2.2.2 - 1)) kl pt pl (L k)) i).2)), (3, .int ((zpk (fun k => zhw (zoM L n kl pt pl (nu, le, af, 0, 0) j).1 (nI k) (zoM L n kl pt pl (nu, le, af, 0, 0) j).2.2.2.1) (fun k => zwl (fun x y => zhp (zoM L n kl pt pl (nu, le, af, 0, 0) j).2.2.1 (zoM L n kl pt pl (nu, le, af, 0, 0) j).2.1 x y ((zoM L n kl pt pl (nu, le, af, 0, 0) j).2.2.2.2 - 1)) kl pt pl (L k)) i).1)), (2, .int (nI j)), (0, .ref (h 0)), (1, .int (nI words))]) hx hb dX5_open_197 hl (k := 0) rfl (nI_add i 1) (by decide) rfl (fun ls hl => ?_)
                  refine lv_goto (tgt := 72) hx hb dX5_open_200 (by decide) ?_
                  exact ih1 (i + 1, ((zpk (fun k => zhw (zoM L n kl pt pl (nu, le, af, 0, 0) j).1 (nI k) (zoM L n kl pt pl (nu, le, af, 0, 0) j).2.2.2.1) (fun k => zwl (fun x y => zhp (zoM L n kl pt pl (nu, le, af, 0, 0) j).2.2.1 (zoM L n kl pt pl (nu, le, af, 0, 0) j).2.1 x y ((zoM L n kl pt pl (nu, le, af, 0, 0) j).2.2.2.2 - 1)) kl pt pl (L k)) i).1), ((zpk (fun k => zhw (zoM L n kl pt pl (nu, le, af, 0, 0) j).1 (nI k) (zoM L n kl pt pl (nu, le, af, 0, 0) j).2.2.2.1) (fun k => zwl (fun x y => zhp (zoM L n kl pt pl (nu, le, af, 0, 0) j).2.2.1 (zoM L n kl pt pl (nu, le, af, 0, 0) j).2.1 x y ((zoM L n kl pt pl (nu, le, af, 0, 0) j).2.2.2.2 - 1)) kl pt pl (L k)) i).2)) (⟨by omega, (congrArg Prod.fst (zpk_s1 (ch := (fun k => zhw (zoM L n kl pt pl (nu, le, af, 0, 0) j).1 (nI k) (zoM L n kl pt pl (nu, le, af, 0, 0) j).2.2.2.1)) (wt := (fun k => zwl (fun x y => zhp (zoM L n kl pt pl (nu, le, af, 0, 0) j).2.2.1 (zoM L n kl pt pl (nu, le, af, 0, 0) j).2.1 x y ((zoM L n kl pt pl (nu, le, af, 0, 0) j).2.2.2.2 - 1)) kl pt pl (L k))) (k := i) c_8)).symm, (congrArg Prod.snd (zpk_s1 (ch := (fun k => zhw (zoM L n kl pt pl (nu, le, af, 0, 0) j).1 (nI k) (zoM L n kl pt pl (nu, le, af, 0, 0) j).2.2.2.1)) (wt := (fun k => zwl (fun x y => zhp (zoM L n kl pt pl (nu, le, af, 0, 0) j).2.2.1 (zoM L n kl pt pl (nu, le, af, 0, 0) j).2.1 x y ((zoM L n kl pt pl (nu, le, af, 0, 0) j).2.2.2.2 - 1)) kl pt pl (L k))) (k := i) c_8)).symm⟩) (by omega) _ _ _ hP hD hS (lv_sub hl [0, 1, 2, 3, 4, 5] rfl)
        · skip
          have c_4 : n = 0 := (nI_eq (a := n) (b := 0) (by omega) (by omega)).mp c_4
          omega
    · skip
      have c_2 : ¬ words ≤ 6 := fun hh => c_2 ((nI_leI (a := words) (b := 6) (by omega) (by omega)).mpr hh)
      exfalso; first | omega | (revert c_2; decide) | (exact absurd rfl c_2) | simp_all

set_option maxHeartbeats 1000000 in
set_option maxRecDepth 100000 in
theorem c_X5_open_x1 {l : Launch} {B kr kp : Nat} {D : va_G} {cI cJ cZ : ClassId} {h : Nat → Nat} {R : va_W} {th : Int32} {n : Nat} {L : Nat → Int64} {kt : Nat → Int32} {km : Nat → Int32} {kl : Nat → Int32} {pt : Nat → Int32} {pm : Nat → Int32} {pl : Nat → Int32} {nu : Nat → Int32} {le : Nat → Int32} {af : Nat → Int32} {run : Bool} {wc : Nat} {lc : Nat} {tr : Nat} {cl : Nat} {tm : Nat} {ms : Nat} {co : Nat} {yn : Nat} {yh : Nat → Int32} {pa : Int32} {mc : Nat → Int32} {i : Int32}   (hi : i < 1 ∨ ¬ i ≤ 6) : Met l yX5_open wsX5_open ({ frames := 1, cells := 0, slots := 0, locals := 21 }) (zPc B kr kp D (zTy cI cJ cZ) (zWM cI cJ cZ h th (n, L) ((zcb kt pt), (zcb km pm), (zcb kl pl)) mc (run, wc, nu, lc, le, af, tr, ms, cl, tm) (co, yn, yh, pa) ++ R) [.ref (h 0), .int i]) (zQi B D (zWM cI cJ cZ h 1 (n, L) ((zcb kt pt), (zcb km pm), (zcb kl pl)) mc (run, wc, nu, lc, le, af, tr, ms, cl, tm) (co, yn, yh, pa) ++ R) 0) 0 0 (zAb B) := by
  refine Met.ofW (cc := cX5_open) (maxL := 8) (ret := (some .int)) (by decide) rfl ?_
  intro p e s m args below meth c s₁ B0 hml hv
  obtain ⟨rfl, hP, hD, hK, hE, hB⟩ := hv
  have hx := B0.exec
  have hb := B0.bytes
  have hr := B0.returns
  have hts := atoms_spec (ws := wsX5_open) B0.pre
  have hown : s.vm.findClass RX5 = some m.cls := findClass_of_methodNamed B0.named
  have hlocks := B0.notSynchronized
  have hA : ∀ q : Nat, s.heap.size ≤ q → zAb B q := fun q hq => Nat.le_trans hB hq
  have hS : va_S (zAb B) s.heap s.heap [] := va_S.rf
  have hgr : s.heap.size ≤ s.heap.size := Nat.le_refl _
  have hl := lv_entry ([.ref (h 0), .int i]) (n := 8) (Nat.le_of_ble_eq_true rfl)
  rw [lg_entry_eq]
  generalize (lg_sl ([.ref (h 0), .int i]) ++ List.replicate (8 - (lg_sl ([.ref (h 0), .int i])).length) Slot.unset).toArray = ls at hl ⊢
  have hl : lv_has ls 8 [(0, .ref (h 0)), (1, .int i)] := hl
  have hinX5 : ∀ w ∈ wsX50, w ∈ wsX5_open := fun _ h => List.mem_cons_of_mem _ (List.mem_append_right _ h)
  have hP : va_P D vwCl (zWM cI cJ cZ h th (n, L) ((zcb kt pt), (zcb km pm), (zcb kl pl)) mc (run, wc, nu, lc, le, af, tr, ms, cl, tm) (co, yn, yh, pa) ++ R) s.heap := hP
  have hD : va_D (zAb B) (zWM cI cJ cZ h th (n, L) ((zcb kt pt), (zcb km pm), (zcb kl pl)) mc (run, wc, nu, lc, le, af, tr, ms, cl, tm) (co, yn, yh, pa) ++ R) := hD
  refine lv_aload_n hx hb dX5_open_0 rfl (lv_at hl 0 rfl) ?_
  refine lv_iconst (v := 0) hx hb dX5_open_1 (by decide) ?_
  refine va_put (ci := 5) (v := .int 0) (ty := .int) (C := RX5) (T := TX5) (N := 20) hx hb hts hinX5 tyX5 tyX5_ok nmX5 hown hK hP hD hS 0 rfl rfl 0 (by decide) (hts (.fieldLink RX5 43 "TypingTutorModel" "thrown" "I") (List.mem_of_getElem? (i := 1) rfl)) (fun _ h9 => h9) rfl (by decide +kernel) rfl rfl (Nat.le_of_ble_eq_true rfl) dX5_open_2 (fun H locs hP hD hS => ?_)
  have hP : va_P D vwCl (zWM cI cJ cZ h 0 (n, L) ((zcb kt pt), (zcb km pm), (zcb kl pl)) mc (run, wc, nu, lc, le, af, tr, ms, cl, tm) (co, yn, yh, pa) ++ R) _ := hP
  have hD : va_D (zAb B) (zWM cI cJ cZ h 0 (n, L) ((zcb kt pt), (zcb km pm), (zcb kl pl)) mc (run, wc, nu, lc, le, af, tr, ms, cl, tm) (co, yn, yh, pa) ++ R) := hD
  refine lv_iload_n hx hb dX5_open_5 rfl (lv_at hl 1 rfl) ?_
  refine lv_iconst (v := 1) hx hb dX5_open_6 (by decide) ?_
  refine lv_icmp_lt (tgt := 16) hx hb dX5_open_7 (by decide) (fun c_1 => ?_) (fun c_1 => ?_)
  · skip
    refine lv_aload_n hx hb dX5_open_16 rfl (lv_at hl 0 rfl) ?_
    refine lv_iconst (v := 1) hx hb dX5_open_17 (by decide) ?_
    refine zci (zrV (As := [.int 1]) (rest := []) ⟨hx, hb, hml, hown, hts⟩ (zV 0 hP hD hK hE hB hS rfl rfl) (c_X5_fail  ) (cwV 1 hts gX5_open_X5_fail rfl rfl rfl hdv_X5_fail ⟨Nat.le_of_ble_eq_true rfl, Nat.le_of_ble_eq_true rfl⟩) rfl rfl hl.1 rfl (lv_room (Nat.le_of_ble_eq_true rfl)) dX5_open_18 ⟨Nat.le_of_ble_eq_true rfl, Nat.le_of_ble_eq_true rfl⟩) hS (fun H locs hP hD hS => ?_)
    have hP : va_P D vwCl (zWM cI cJ cZ h 1 (n, L) ((zcb kt pt), (zcb km pm), (zcb kl pl)) mc (run, wc, nu, lc, le, af, tr, ms, cl, tm) (co, yn, yh, pa) ++ R) _ := hP
    have hD : va_D (zAb B) (zWM cI cJ cZ h 1 (n, L) ((zcb kt pt), (zcb km pm), (zcb kl pl)) mc (run, wc, nu, lc, le, af, tr, ms, cl, tm) (co, yn, yh, pa) ++ R) := hD
    exact W.iret (v := 0) hx hb hr (fun t ht hW => ⟨⟨_, (), rfl, rfl, by rw [ht]; exact hP, hD⟩, hS.F ht⟩) hS.2.2 dX5_open_21
  · skip
    refine lv_iload_n hx hb dX5_open_10 rfl (lv_at hl 1 rfl) ?_
    refine lv_bipush (v := 6) hx hb dX5_open_11 (by decide) ?_
    refine lv_icmp_le (tgt := 22) hx hb dX5_open_13 (by decide) (fun c_2 => ?_) (fun c_2 => ?_)
    · skip
      exact hi.elim (fun q => absurd q c_1) (fun q => absurd c_2 q)
    · skip
      refine lv_aload_n hx hb dX5_open_16 rfl (lv_at hl 0 rfl) ?_
      refine lv_iconst (v := 1) hx hb dX5_open_17 (by decide) ?_
      refine zci (zrV (As := [.int 1]) (rest := []) ⟨hx, hb, hml, hown, hts⟩ (zV 0 hP hD hK hE hB hS rfl rfl) (c_X5_fail  ) (cwV 1 hts gX5_open_X5_fail rfl rfl rfl hdv_X5_fail ⟨Nat.le_of_ble_eq_true rfl, Nat.le_of_ble_eq_true rfl⟩) rfl rfl hl.1 rfl (lv_room (Nat.le_of_ble_eq_true rfl)) dX5_open_18 ⟨Nat.le_of_ble_eq_true rfl, Nat.le_of_ble_eq_true rfl⟩) hS (fun H locs hP hD hS => ?_)
      have hP : va_P D vwCl (zWM cI cJ cZ h 1 (n, L) ((zcb kt pt), (zcb km pm), (zcb kl pl)) mc (run, wc, nu, lc, le, af, tr, ms, cl, tm) (co, yn, yh, pa) ++ R) _ := hP
      have hD : va_D (zAb B) (zWM cI cJ cZ h 1 (n, L) ((zcb kt pt), (zcb km pm), (zcb kl pl)) mc (run, wc, nu, lc, le, af, tr, ms, cl, tm) (co, yn, yh, pa) ++ R) := hD
      exact W.iret (v := 0) hx hb hr (fun t ht hW => ⟨⟨_, (), rfl, rfl, by rw [ht]; exact hP, hD⟩, hS.F ht⟩) hS.2.2 dX5_open_21

set_option maxHeartbeats 1000000 in
set_option maxRecDepth 100000 in
theorem c_X5_open_x2 {l : Launch} {B kr kp : Nat} {D : va_G} {cI cJ cZ : ClassId} {h : Nat → Nat} {R : va_W} {th : Int32} {n : Nat} {L : Nat → Int64} {kt : Nat → Int32} {km : Nat → Int32} {kl : Nat → Int32} {pt : Nat → Int32} {pm : Nat → Int32} {pl : Nat → Int32} {nu : Nat → Int32} {le : Nat → Int32} {af : Nat → Int32} {run : Bool} {wc : Nat} {lc : Nat} {tr : Nat} {cl : Nat} {tm : Nat} {ms : Nat} {co : Nat} {yn : Nat} {yh : Nat → Int32} {pa : Int32} {mc : Nat → Int32} {i : Int32}   (hi1 : ¬ i < 1) (hi6 : i ≤ 6) (hf : run = true ∨ n = 0) (hn : n ≤ 40) : Met l yX5_open wsX5_open ({ frames := 1, cells := 0, slots := 0, locals := 21 }) (zPc B kr kp D (zTy cI cJ cZ) (zWM cI cJ cZ h th (n, L) ((zcb kt pt), (zcb km pm), (zcb kl pl)) mc (run, wc, nu, lc, le, af, tr, ms, cl, tm) (co, yn, yh, pa) ++ R) [.ref (h 0), .int i]) (zQi B D (zWM cI cJ cZ h 2 (n, L) ((zcb kt pt), (zcb km pm), (zcb kl pl)) mc (run, wc, nu, lc, le, af, tr, ms, cl, tm) (co, yn, yh, pa) ++ R) 0) 0 0 (zAb B) := by
  refine Met.ofW (cc := cX5_open) (maxL := 8) (ret := (some .int)) (by decide) rfl ?_
  intro p e s m args below meth c s₁ B0 hml hv
  obtain ⟨rfl, hP, hD, hK, hE, hB⟩ := hv
  have hx := B0.exec
  have hb := B0.bytes
  have hr := B0.returns
  have hts := atoms_spec (ws := wsX5_open) B0.pre
  have hown : s.vm.findClass RX5 = some m.cls := findClass_of_methodNamed B0.named
  have hlocks := B0.notSynchronized
  have hA : ∀ q : Nat, s.heap.size ≤ q → zAb B q := fun q hq => Nat.le_trans hB hq
  have hS : va_S (zAb B) s.heap s.heap [] := va_S.rf
  have hgr : s.heap.size ≤ s.heap.size := Nat.le_refl _
  have hl := lv_entry ([.ref (h 0), .int i]) (n := 8) (Nat.le_of_ble_eq_true rfl)
  rw [lg_entry_eq]
  generalize (lg_sl ([.ref (h 0), .int i]) ++ List.replicate (8 - (lg_sl ([.ref (h 0), .int i])).length) Slot.unset).toArray = ls at hl ⊢
  have hl : lv_has ls 8 [(0, .ref (h 0)), (1, .int i)] := hl
  have hinX5 : ∀ w ∈ wsX50, w ∈ wsX5_open := fun _ h => List.mem_cons_of_mem _ (List.mem_append_right _ h)
  have hP : va_P D vwCl (zWM cI cJ cZ h th (n, L) ((zcb kt pt), (zcb km pm), (zcb kl pl)) mc (run, wc, nu, lc, le, af, tr, ms, cl, tm) (co, yn, yh, pa) ++ R) s.heap := hP
  have hD : va_D (zAb B) (zWM cI cJ cZ h th (n, L) ((zcb kt pt), (zcb km pm), (zcb kl pl)) mc (run, wc, nu, lc, le, af, tr, ms, cl, tm) (co, yn, yh, pa) ++ R) := hD
  refine lv_aload_n hx hb dX5_open_0 rfl (lv_at hl 0 rfl) ?_
  refine lv_iconst (v := 0) hx hb dX5_open_1 (by decide) ?_
  refine va_put (ci := 5) (v := .int 0) (ty := .int) (C := RX5) (T := TX5) (N := 20) hx hb hts hinX5 tyX5 tyX5_ok nmX5 hown hK hP hD hS 0 rfl rfl 0 (by decide) (hts (.fieldLink RX5 43 "TypingTutorModel" "thrown" "I") (List.mem_of_getElem? (i := 1) rfl)) (fun _ h9 => h9) rfl (by decide +kernel) rfl rfl (Nat.le_of_ble_eq_true rfl) dX5_open_2 (fun H locs hP hD hS => ?_)
  have hP : va_P D vwCl (zWM cI cJ cZ h 0 (n, L) ((zcb kt pt), (zcb km pm), (zcb kl pl)) mc (run, wc, nu, lc, le, af, tr, ms, cl, tm) (co, yn, yh, pa) ++ R) _ := hP
  have hD : va_D (zAb B) (zWM cI cJ cZ h 0 (n, L) ((zcb kt pt), (zcb km pm), (zcb kl pl)) mc (run, wc, nu, lc, le, af, tr, ms, cl, tm) (co, yn, yh, pa) ++ R) := hD
  refine lv_iload_n hx hb dX5_open_5 rfl (lv_at hl 1 rfl) ?_
  refine lv_iconst (v := 1) hx hb dX5_open_6 (by decide) ?_
  refine lv_icmp_lt (tgt := 16) hx hb dX5_open_7 (by decide) (fun c_1 => ?_) (fun c_1 => ?_)
  · skip
    exact absurd c_1 hi1
  · skip
    refine lv_iload_n hx hb dX5_open_10 rfl (lv_at hl 1 rfl) ?_
    refine lv_bipush (v := 6) hx hb dX5_open_11 (by decide) ?_
    refine lv_icmp_le (tgt := 22) hx hb dX5_open_13 (by decide) (fun c_2 => ?_) (fun c_2 => ?_)
    · skip
      refine lv_aload_n hx hb dX5_open_22 rfl (lv_at hl 0 rfl) ?_
      refine va_get (ci := 5) (v := .int (zb run)) (C := RX5) (T := TX5) (N := 20) hx hb hts hinX5 hown hK hP 0 rfl rfl 7 (by decide) (hts (.fieldLink RX5 106 "TypingTutorModel" "isOpen" "Z") (List.mem_of_getElem? (i := 2) rfl)) (fun _ h9 => h9) rfl dX5_open_23 ?_
      refine lv_if_ne (tgt := 36) hx hb dX5_open_26 (by decide) (fun c_3 => ?_) (fun c_3 => ?_)
      · skip
        have c_3 : run = true := zb_n c_3
        refine lv_aload_n hx hb dX5_open_36 rfl (lv_at hl 0 rfl) ?_
        refine lv_iconst (v := 2) hx hb dX5_open_37 (by decide) ?_
        refine zci (zrV (As := [.int 2]) (rest := []) ⟨hx, hb, hml, hown, hts⟩ (zV 0 hP hD hK hE hB hS rfl rfl) (c_X5_fail  ) (cwV 1 hts gX5_open_X5_fail rfl rfl rfl hdv_X5_fail ⟨Nat.le_of_ble_eq_true rfl, Nat.le_of_ble_eq_true rfl⟩) rfl rfl hl.1 rfl (lv_room (Nat.le_of_ble_eq_true rfl)) dX5_open_38 ⟨Nat.le_of_ble_eq_true rfl, Nat.le_of_ble_eq_true rfl⟩) hS (fun H locs hP hD hS => ?_)
        have hP : va_P D vwCl (zWM cI cJ cZ h 2 (n, L) ((zcb kt pt), (zcb km pm), (zcb kl pl)) mc (run, wc, nu, lc, le, af, tr, ms, cl, tm) (co, yn, yh, pa) ++ R) _ := hP
        have hD : va_D (zAb B) (zWM cI cJ cZ h 2 (n, L) ((zcb kt pt), (zcb km pm), (zcb kl pl)) mc (run, wc, nu, lc, le, af, tr, ms, cl, tm) (co, yn, yh, pa) ++ R) := hD
        exact W.iret (v := 0) hx hb hr (fun t ht hW => ⟨⟨_, (), rfl, rfl, by rw [ht]; exact hP, hD⟩, hS.F ht⟩) hS.2.2 dX5_open_41
      · skip
        have c_3 : run = false := zb_0 c_3
        refine lv_aload_n hx hb dX5_open_29 rfl (lv_at hl 0 rfl) ?_
        refine va_get (ci := 5) (v := .int (nI n)) (C := RX5) (T := TX5) (N := 20) hx hb hts hinX5 hown hK hP 0 rfl rfl 1 (by decide) (hts (.fieldLink RX5 46 "TypingTutorModel" "words" "I") (List.mem_of_getElem? (i := 3) rfl)) (fun _ h9 => h9) rfl dX5_open_30 ?_
        refine lv_if_ne (tgt := 42) hx hb dX5_open_33 (by decide) (fun c_4 => ?_) (fun c_4 => ?_)
        · skip
          have c_4 : ¬ n = 0 := fun hh => c_4 ((nI_eq (a := n) (b := 0) (by omega) (by omega)).mpr hh)
          exact hf.elim (fun q => absurd (c_3.symm.trans q) (by decide)) (fun q => absurd q c_4)
        · skip
          have c_4 : n = 0 := (nI_eq (a := n) (b := 0) (by omega) (by omega)).mp c_4
          refine lv_aload_n hx hb dX5_open_36 rfl (lv_at hl 0 rfl) ?_
          refine lv_iconst (v := 2) hx hb dX5_open_37 (by decide) ?_
          refine zci (zrV (As := [.int 2]) (rest := []) ⟨hx, hb, hml, hown, hts⟩ (zV 0 hP hD hK hE hB hS rfl rfl) (c_X5_fail  ) (cwV 1 hts gX5_open_X5_fail rfl rfl rfl hdv_X5_fail ⟨Nat.le_of_ble_eq_true rfl, Nat.le_of_ble_eq_true rfl⟩) rfl rfl hl.1 rfl (lv_room (Nat.le_of_ble_eq_true rfl)) dX5_open_38 ⟨Nat.le_of_ble_eq_true rfl, Nat.le_of_ble_eq_true rfl⟩) hS (fun H locs hP hD hS => ?_)
          have hP : va_P D vwCl (zWM cI cJ cZ h 2 (n, L) ((zcb kt pt), (zcb km pm), (zcb kl pl)) mc (run, wc, nu, lc, le, af, tr, ms, cl, tm) (co, yn, yh, pa) ++ R) _ := hP
          have hD : va_D (zAb B) (zWM cI cJ cZ h 2 (n, L) ((zcb kt pt), (zcb km pm), (zcb kl pl)) mc (run, wc, nu, lc, le, af, tr, ms, cl, tm) (co, yn, yh, pa) ++ R) := hD
          exact W.iret (v := 0) hx hb hr (fun t ht hW => ⟨⟨_, (), rfl, rfl, by rw [ht]; exact hP, hD⟩, hS.F ht⟩) hS.2.2 dX5_open_41
    · skip
      exact absurd hi6 c_2
