set_option maxHeartbeats 1000000 in
set_option maxRecDepth 100000 in
theorem c_X5_areNeighbours {l : Launch} {B kr kp : Nat} {D : va_G} {cI cJ cZ : ClassId} {h : Nat → Nat} {R : va_W} {th : Int32} {n : Nat} {L : Nat → Int64} {kt : Nat → Int32} {km : Nat → Int32} {kl : Nat → Int32} {pt : Nat → Int32} {pm : Nat → Int32} {pl : Nat → Int32} {nu : Nat → Int32} {le : Nat → Int32} {af : Nat → Int32} {run : Bool} {wc : Nat} {lc : Nat} {tr : Nat} {cl : Nat} {tm : Nat} {ms : Nat} {co : Nat} {yn : Nat} {yh : Nat → Int32} {pa : Int32} {mc : Nat → Int32} {a : Nat} {b : Nat}   (ha : a < 26) (hb9 : b < 26) : Met l yX5_areNeighbours wsX5_areNeighbours ({ frames := 5, cells := 0, slots := 0, locals := 116 }) (zPc B kr kp D (zTy cI cJ cZ) (zWM cI cJ cZ h th (n, L) ((zcb kt pt), (zcb km pm), (zcb kl pl)) mc (run, wc, nu, lc, le, af, tr, ms, cl, tm) (co, yn, yh, pa) ++ R) [.ref (h 0), .int (nI a), .int (nI b)]) (zQi B D (zWM cI cJ cZ h 0 (n, L) ((zcb kt pt), (zcb km pm), (zcb kl pl)) mc (run, wc, nu, lc, le, af, tr, ms, cl, tm) (co, yn, yh, pa) ++ R) (zb (zst (nI a) (nI b)))) 0 0 (zAb B) := by
  refine Met.ofW (cc := cX5_areNeighbours) (maxL := 3) (ret := (some .boolean)) (by decide) rfl ?_
  intro p e s m args below meth c s₁ B0 hml hv
  obtain ⟨rfl, hP, hD, hK, hE, hB⟩ := hv
  have hx := B0.exec
  have hb := B0.bytes
  have hr := B0.returns
  have hts := atoms_spec (ws := wsX5_areNeighbours) B0.pre
  have hown : s.vm.findClass RX5 = some m.cls := findClass_of_methodNamed B0.named
  have hlocks := B0.notSynchronized
  have hA : ∀ q : Nat, s.heap.size ≤ q → zAb B q := fun q hq => Nat.le_trans hB hq
  have hS : va_S (zAb B) s.heap s.heap [] := va_S.rf
  have hgr : s.heap.size ≤ s.heap.size := Nat.le_refl _
  have hl := lv_entry ([.ref (h 0), .int (nI a), .int (nI b)]) (n := 3) (Nat.le_of_ble_eq_true rfl)
  rw [lg_entry_eq]
  generalize (lg_sl ([.ref (h 0), .int (nI a), .int (nI b)]) ++ List.replicate (3 - (lg_sl ([.ref (h 0), .int (nI a), .int (nI b)])).length) Slot.unset).toArray = ls at hl ⊢
  have hl : lv_has ls 3 [(0, .ref (h 0)), (1, .int (nI a)), (2, .int (nI b))] := hl
  have hinX5 : ∀ w ∈ wsX50, w ∈ wsX5_areNeighbours := fun _ h => List.mem_cons_of_mem _ (List.mem_append_right _ h)
  have hP : va_P D vwCl (zWM cI cJ cZ h th (n, L) ((zcb kt pt), (zcb km pm), (zcb kl pl)) mc (run, wc, nu, lc, le, af, tr, ms, cl, tm) (co, yn, yh, pa) ++ R) s.heap := hP
  have hD : va_D (zAb B) (zWM cI cJ cZ h th (n, L) ((zcb kt pt), (zcb km pm), (zcb kl pl)) mc (run, wc, nu, lc, le, af, tr, ms, cl, tm) (co, yn, yh, pa) ++ R) := hD
  refine lv_aload_n hx hb dX5_areNeighbours_0 rfl (lv_at hl 0 rfl) ?_
  refine lv_iload_n hx hb dX5_areNeighbours_1 rfl (lv_at hl 1 rfl) ?_
  refine zci (zrS (As := [.int (nI a)]) (rest := [.ref (h 0)]) ⟨hx, hb, hml, hown, hts⟩ (zS hP hD hK hE hB hS) (c_X5_isKey  ) (va_cwS 1 hts gX5_areNeighbours_X5_isKey rfl rfl rfl hds_X5_isKey ⟨Nat.le_of_ble_eq_true rfl, Nat.le_of_ble_eq_true rfl⟩) rfl rfl hl.1 rfl (lv_room (Nat.le_of_ble_eq_true rfl)) dX5_areNeighbours_2 ⟨Nat.le_of_ble_eq_true rfl, Nat.le_of_ble_eq_true rfl⟩) hS (fun H locs hP hD hS => ?_)
  have hP : va_P D vwCl (zWM cI cJ cZ h th (n, L) ((zcb kt pt), (zcb km pm), (zcb kl pl)) mc (run, wc, nu, lc, le, af, tr, ms, cl, tm) (co, yn, yh, pa) ++ R) _ := hP
  have hD : va_D (zAb B) (zWM cI cJ cZ h th (n, L) ((zcb kt pt), (zcb km pm), (zcb kl pl)) mc (run, wc, nu, lc, le, af, tr, ms, cl, tm) (co, yn, yh, pa) ++ R) := hD
  refine lv_if_eq (tgt := 19) hx hb dX5_areNeighbours_5 (by decide) (fun c_1 => ?_) (fun c_1 => ?_)
  · skip
    have c_1 := zq_0 c_1
    exact absurd ⟨nI_pos (by omega), nI_ge ha (by decide)⟩ c_1
  · skip
    have c_1 := zq_n c_1
    refine lv_iload_n hx hb dX5_areNeighbours_8 rfl (lv_at hl 2 rfl) ?_
    refine zci (zrS (As := [.int (nI b)]) (rest := [.ref (h 0)]) ⟨hx, hb, hml, hown, hts⟩ (zS hP hD hK hE hB hS) (c_X5_isKey  ) (va_cwS 1 hts gX5_areNeighbours_X5_isKey rfl rfl rfl hds_X5_isKey ⟨Nat.le_of_ble_eq_true rfl, Nat.le_of_ble_eq_true rfl⟩) rfl rfl hl.1 rfl (lv_room (Nat.le_of_ble_eq_true rfl)) dX5_areNeighbours_9 ⟨Nat.le_of_ble_eq_true rfl, Nat.le_of_ble_eq_true rfl⟩) hS (fun H locs hP hD hS => ?_)
    have hP : va_P D vwCl (zWM cI cJ cZ h th (n, L) ((zcb kt pt), (zcb km pm), (zcb kl pl)) mc (run, wc, nu, lc, le, af, tr, ms, cl, tm) (co, yn, yh, pa) ++ R) _ := hP
    have hD : va_D (zAb B) (zWM cI cJ cZ h th (n, L) ((zcb kt pt), (zcb km pm), (zcb kl pl)) mc (run, wc, nu, lc, le, af, tr, ms, cl, tm) (co, yn, yh, pa) ++ R) := hD
    refine lv_if_eq (tgt := 19) hx hb dX5_areNeighbours_12 (by decide) (fun c_2 => ?_) (fun c_2 => ?_)
    · skip
      have c_2 := zq_0 c_2
      exact absurd ⟨nI_pos (by omega), nI_ge hb9 (by decide)⟩ c_2
    · skip
      have c_2 := zq_n c_2
      refine lv_iconst (v := 0) hx hb dX5_areNeighbours_15 (by decide) ?_
      refine lv_goto (tgt := 20) hx hb dX5_areNeighbours_16 (by decide) ?_
      refine va_put (ci := 5) (v := .int 0) (ty := .int) (C := RX5) (T := TX5) (N := 20) hx hb hts hinX5 tyX5 tyX5_ok nmX5 hown hK hP hD hS 0 rfl rfl 0 (by decide) (hts (.fieldLink RX5 43 "TypingTutorModel" "thrown" "I") (List.mem_of_getElem? (i := 1) rfl)) (fun _ h9 => h9) rfl (by decide +kernel) rfl rfl (Nat.le_of_ble_eq_true rfl) dX5_areNeighbours_20 (fun H locs hP hD hS => ?_)
      have hP : va_P D vwCl (zWM cI cJ cZ h 0 (n, L) ((zcb kt pt), (zcb km pm), (zcb kl pl)) mc (run, wc, nu, lc, le, af, tr, ms, cl, tm) (co, yn, yh, pa) ++ R) _ := hP
      have hD : va_D (zAb B) (zWM cI cJ cZ h 0 (n, L) ((zcb kt pt), (zcb km pm), (zcb kl pl)) mc (run, wc, nu, lc, le, af, tr, ms, cl, tm) (co, yn, yh, pa) ++ R) := hD
      refine lv_aload_n hx hb dX5_areNeighbours_23 rfl (lv_at hl 0 rfl) ?_
      refine va_get (ci := 5) (v := .int 0) (C := RX5) (T := TX5) (N := 20) hx hb hts hinX5 hown hK hP 0 rfl rfl 0 (by decide) (hts (.fieldLink RX5 43 "TypingTutorModel" "thrown" "I") (List.mem_of_getElem? (i := 1) rfl)) (fun _ h9 => h9) rfl dX5_areNeighbours_24 ?_
      refine lv_if_ne (tgt := 42) hx hb dX5_areNeighbours_27 (by decide) (fun c_3 => ?_) (fun c_3 => ?_)
      · skip
        exfalso; first | omega | (revert c_3; decide) | (exact absurd rfl c_3) | simp_all
      · skip
        refine lv_iload_n hx hb dX5_areNeighbours_30 rfl (lv_at hl 1 rfl) ?_
        refine lv_iload_n hx hb dX5_areNeighbours_31 rfl (lv_at hl 2 rfl) ?_
        refine zci (zrS (As := [.int (nI a), .int (nI b)]) (rest := []) ⟨hx, hb, hml, hown, hts⟩ (zS hP hD hK hE hB hS) (c_X5_nearTo (a := a) (b := b) (ha) (hb9)) (va_cwS 2 hts gX5_areNeighbours_X5_nearTo rfl rfl rfl hds_X5_nearTo ⟨Nat.le_of_ble_eq_true rfl, Nat.le_of_ble_eq_true rfl⟩) rfl rfl hl.1 rfl (lv_room (Nat.le_of_ble_eq_true rfl)) dX5_areNeighbours_32 ⟨Nat.le_of_ble_eq_true rfl, Nat.le_of_ble_eq_true rfl⟩) hS (fun H locs hP hD hS => ?_)
        have hP : va_P D vwCl (zWM cI cJ cZ h 0 (n, L) ((zcb kt pt), (zcb km pm), (zcb kl pl)) mc (run, wc, nu, lc, le, af, tr, ms, cl, tm) (co, yn, yh, pa) ++ R) _ := hP
        have hD : va_D (zAb B) (zWM cI cJ cZ h 0 (n, L) ((zcb kt pt), (zcb km pm), (zcb kl pl)) mc (run, wc, nu, lc, le, af, tr, ms, cl, tm) (co, yn, yh, pa) ++ R) := hD
        refine lv_if_eq (tgt := 42) hx hb dX5_areNeighbours_35 (by decide) (fun c_4 => ?_) (fun c_4 => ?_)
        · skip
          have c_4 : (zst (nI a) (nI b)) = false := zb_0 c_4
          refine lv_iconst (v := 0) hx hb dX5_areNeighbours_42 (by decide) ?_
          exact W.zret (v := 0) hx hb hr rfl (fun t ht hW => ⟨⟨_, (), rfl, zb_f c_4, by rw [ht]; exact hP, hD⟩, hS.F ht⟩) hS.2.2 dX5_areNeighbours_43
        · skip
          have c_4 : (zst (nI a) (nI b)) = true := zb_n c_4
          refine lv_iconst (v := 1) hx hb dX5_areNeighbours_38 (by decide) ?_
          refine lv_goto (tgt := 43) hx hb dX5_areNeighbours_39 (by decide) ?_
          exact W.zret (v := 1) hx hb hr rfl (fun t ht hW => ⟨⟨_, (), rfl, zb_t c_4, by rw [ht]; exact hP, hD⟩, hS.F ht⟩) hS.2.2 dX5_areNeighbours_43

set_option maxHeartbeats 1000000 in
set_option maxRecDepth 100000 in
theorem c_X5_areNeighbours_x {l : Launch} {B kr kp : Nat} {D : va_G} {cI cJ cZ : ClassId} {h : Nat → Nat} {R : va_W} {th : Int32} {n : Nat} {L : Nat → Int64} {kt : Nat → Int32} {km : Nat → Int32} {kl : Nat → Int32} {pt : Nat → Int32} {pm : Nat → Int32} {pl : Nat → Int32} {nu : Nat → Int32} {le : Nat → Int32} {af : Nat → Int32} {run : Bool} {wc : Nat} {lc : Nat} {tr : Nat} {cl : Nat} {tm : Nat} {ms : Nat} {co : Nat} {yn : Nat} {yh : Nat → Int32} {pa : Int32} {mc : Nat → Int32} {a : Int32} {b : Int32}   (h1 : ¬ ((¬ a < 0 ∧ ¬ 26 ≤ a) ∧ (¬ b < 0 ∧ ¬ 26 ≤ b))) : Met l yX5_areNeighbours wsX5_areNeighbours ({ frames := 1, cells := 0, slots := 0, locals := 20 }) (zPc B kr kp D (zTy cI cJ cZ) (zWM cI cJ cZ h th (n, L) ((zcb kt pt), (zcb km pm), (zcb kl pl)) mc (run, wc, nu, lc, le, af, tr, ms, cl, tm) (co, yn, yh, pa) ++ R) [.ref (h 0), .int a, .int b]) (zQi B D (zWM cI cJ cZ h 1 (n, L) ((zcb kt pt), (zcb km pm), (zcb kl pl)) mc (run, wc, nu, lc, le, af, tr, ms, cl, tm) (co, yn, yh, pa) ++ R) 0) 0 0 (zAb B) := by
  refine Met.ofW (cc := cX5_areNeighbours) (maxL := 3) (ret := (some .boolean)) (by decide) rfl ?_
  intro p e s m args below meth c s₁ B0 hml hv
  obtain ⟨rfl, hP, hD, hK, hE, hB⟩ := hv
  have hx := B0.exec
  have hb := B0.bytes
  have hr := B0.returns
  have hts := atoms_spec (ws := wsX5_areNeighbours) B0.pre
  have hown : s.vm.findClass RX5 = some m.cls := findClass_of_methodNamed B0.named
  have hlocks := B0.notSynchronized
  have hA : ∀ q : Nat, s.heap.size ≤ q → zAb B q := fun q hq => Nat.le_trans hB hq
  have hS : va_S (zAb B) s.heap s.heap [] := va_S.rf
  have hgr : s.heap.size ≤ s.heap.size := Nat.le_refl _
  have hl := lv_entry ([.ref (h 0), .int a, .int b]) (n := 3) (Nat.le_of_ble_eq_true rfl)
  rw [lg_entry_eq]
  generalize (lg_sl ([.ref (h 0), .int a, .int b]) ++ List.replicate (3 - (lg_sl ([.ref (h 0), .int a, .int b])).length) Slot.unset).toArray = ls at hl ⊢
  have hl : lv_has ls 3 [(0, .ref (h 0)), (1, .int a), (2, .int b)] := hl
  have hinX5 : ∀ w ∈ wsX50, w ∈ wsX5_areNeighbours := fun _ h => List.mem_cons_of_mem _ (List.mem_append_right _ h)
  have hP : va_P D vwCl (zWM cI cJ cZ h th (n, L) ((zcb kt pt), (zcb km pm), (zcb kl pl)) mc (run, wc, nu, lc, le, af, tr, ms, cl, tm) (co, yn, yh, pa) ++ R) s.heap := hP
  have hD : va_D (zAb B) (zWM cI cJ cZ h th (n, L) ((zcb kt pt), (zcb km pm), (zcb kl pl)) mc (run, wc, nu, lc, le, af, tr, ms, cl, tm) (co, yn, yh, pa) ++ R) := hD
  refine lv_aload_n hx hb dX5_areNeighbours_0 rfl (lv_at hl 0 rfl) ?_
  refine lv_iload_n hx hb dX5_areNeighbours_1 rfl (lv_at hl 1 rfl) ?_
  refine zci (zrS (As := [.int a]) (rest := [.ref (h 0)]) ⟨hx, hb, hml, hown, hts⟩ (zS hP hD hK hE hB hS) (c_X5_isKey  ) (va_cwS 1 hts gX5_areNeighbours_X5_isKey rfl rfl rfl hds_X5_isKey ⟨Nat.le_of_ble_eq_true rfl, Nat.le_of_ble_eq_true rfl⟩) rfl rfl hl.1 rfl (lv_room (Nat.le_of_ble_eq_true rfl)) dX5_areNeighbours_2 ⟨Nat.le_of_ble_eq_true rfl, Nat.le_of_ble_eq_true rfl⟩) hS (fun H locs hP hD hS => ?_)
  have hP : va_P D vwCl (zWM cI cJ cZ h th (n, L) ((zcb kt pt), (zcb km pm), (zcb kl pl)) mc (run, wc, nu, lc, le, af, tr, ms, cl, tm) (co, yn, yh, pa) ++ R) _ := hP
  have hD : va_D (zAb B) (zWM cI cJ cZ h th (n, L) ((zcb kt pt), (zcb km pm), (zcb kl pl)) mc (run, wc, nu, lc, le, af, tr, ms, cl, tm) (co, yn, yh, pa) ++ R) := hD
  refine lv_if_eq (tgt := 19) hx hb dX5_areNeighbours_5 (by decide) (fun c_1 => ?_) (fun c_1 => ?_)
  · skip
    have c_1 := zq_0 c_1
    refine lv_iconst (v := 1) hx hb dX5_areNeighbours_19 (by decide) ?_
    refine va_put (ci := 5) (v := .int 1) (ty := .int) (C := RX5) (T := TX5) (N := 20) hx hb hts hinX5 tyX5 tyX5_ok nmX5 hown hK hP hD hS 0 rfl rfl 0 (by decide) (hts (.fieldLink RX5 43 "TypingTutorModel" "thrown" "I") (List.mem_of_getElem? (i := 1) rfl)) (fun _ h9 => h9) rfl (by decide +kernel) rfl rfl (Nat.le_of_ble_eq_true rfl) dX5_areNeighbours_20 (fun H locs hP hD hS => ?_)
    have hP : va_P D vwCl (zWM cI cJ cZ h 1 (n, L) ((zcb kt pt), (zcb km pm), (zcb kl pl)) mc (run, wc, nu, lc, le, af, tr, ms, cl, tm) (co, yn, yh, pa) ++ R) _ := hP
    have hD : va_D (zAb B) (zWM cI cJ cZ h 1 (n, L) ((zcb kt pt), (zcb km pm), (zcb kl pl)) mc (run, wc, nu, lc, le, af, tr, ms, cl, tm) (co, yn, yh, pa) ++ R) := hD
    refine lv_aload_n hx hb dX5_areNeighbours_23 rfl (lv_at hl 0 rfl) ?_
    refine va_get (ci := 5) (v := .int 1) (C := RX5) (T := TX5) (N := 20) hx hb hts hinX5 hown hK hP 0 rfl rfl 0 (by decide) (hts (.fieldLink RX5 43 "TypingTutorModel" "thrown" "I") (List.mem_of_getElem? (i := 1) rfl)) (fun _ h9 => h9) rfl dX5_areNeighbours_24 ?_
    refine lv_if_ne (tgt := 42) hx hb dX5_areNeighbours_27 (by decide) (fun c_2 => ?_) (fun c_2 => ?_)
    · skip
      refine lv_iconst (v := 0) hx hb dX5_areNeighbours_42 (by decide) ?_
      exact W.zret (v := 0) hx hb hr rfl (fun t ht hW => ⟨⟨_, (), rfl, rfl, by rw [ht]; exact hP, hD⟩, hS.F ht⟩) hS.2.2 dX5_areNeighbours_43
    · skip
      exfalso; first | omega | (revert c_2; decide) | (exact absurd rfl c_2) | simp_all
  · skip
    have c_1 := zq_n c_1
    refine lv_iload_n hx hb dX5_areNeighbours_8 rfl (lv_at hl 2 rfl) ?_
    refine zci (zrS (As := [.int b]) (rest := [.ref (h 0)]) ⟨hx, hb, hml, hown, hts⟩ (zS hP hD hK hE hB hS) (c_X5_isKey  ) (va_cwS 1 hts gX5_areNeighbours_X5_isKey rfl rfl rfl hds_X5_isKey ⟨Nat.le_of_ble_eq_true rfl, Nat.le_of_ble_eq_true rfl⟩) rfl rfl hl.1 rfl (lv_room (Nat.le_of_ble_eq_true rfl)) dX5_areNeighbours_9 ⟨Nat.le_of_ble_eq_true rfl, Nat.le_of_ble_eq_true rfl⟩) hS (fun H locs hP hD hS => ?_)
    have hP : va_P D vwCl (zWM cI cJ cZ h th (n, L) ((zcb kt pt), (zcb km pm), (zcb kl pl)) mc (run, wc, nu, lc, le, af, tr, ms, cl, tm) (co, yn, yh, pa) ++ R) _ := hP
    have hD : va_D (zAb B) (zWM cI cJ cZ h th (n, L) ((zcb kt pt), (zcb km pm), (zcb kl pl)) mc (run, wc, nu, lc, le, af, tr, ms, cl, tm) (co, yn, yh, pa) ++ R) := hD
    refine lv_if_eq (tgt := 19) hx hb dX5_areNeighbours_12 (by decide) (fun c_3 => ?_) (fun c_3 => ?_)
    · skip
      have c_3 := zq_0 c_3
      refine lv_iconst (v := 1) hx hb dX5_areNeighbours_19 (by decide) ?_
      refine va_put (ci := 5) (v := .int 1) (ty := .int) (C := RX5) (T := TX5) (N := 20) hx hb hts hinX5 tyX5 tyX5_ok nmX5 hown hK hP hD hS 0 rfl rfl 0 (by decide) (hts (.fieldLink RX5 43 "TypingTutorModel" "thrown" "I") (List.mem_of_getElem? (i := 1) rfl)) (fun _ h9 => h9) rfl (by decide +kernel) rfl rfl (Nat.le_of_ble_eq_true rfl) dX5_areNeighbours_20 (fun H locs hP hD hS => ?_)
      have hP : va_P D vwCl (zWM cI cJ cZ h 1 (n, L) ((zcb kt pt), (zcb km pm), (zcb kl pl)) mc (run, wc, nu, lc, le, af, tr, ms, cl, tm) (co, yn, yh, pa) ++ R) _ := hP
      have hD : va_D (zAb B) (zWM cI cJ cZ h 1 (n, L) ((zcb kt pt), (zcb km pm), (zcb kl pl)) mc (run, wc, nu, lc, le, af, tr, ms, cl, tm) (co, yn, yh, pa) ++ R) := hD
      refine lv_aload_n hx hb dX5_areNeighbours_23 rfl (lv_at hl 0 rfl) ?_
      refine va_get (ci := 5) (v := .int 1) (C := RX5) (T := TX5) (N := 20) hx hb hts hinX5 hown hK hP 0 rfl rfl 0 (by decide) (hts (.fieldLink RX5 43 "TypingTutorModel" "thrown" "I") (List.mem_of_getElem? (i := 1) rfl)) (fun _ h9 => h9) rfl dX5_areNeighbours_24 ?_
      refine lv_if_ne (tgt := 42) hx hb dX5_areNeighbours_27 (by decide) (fun c_4 => ?_) (fun c_4 => ?_)
      · skip
        refine lv_iconst (v := 0) hx hb dX5_areNeighbours_42 (by decide) ?_
        exact W.zret (v := 0) hx hb hr rfl (fun t ht hW => ⟨⟨_, (), rfl, rfl, by rw [ht]; exact hP, hD⟩, hS.F ht⟩) hS.2.2 dX5_areNeighbours_43
      · skip
        exfalso; first | omega | (revert c_4; decide) | (exact absurd rfl c_4) | simp_all
    · skip
      have c_3 := zq_n c_3
      exact absurd ⟨c_1, c_3⟩ h1

set_option maxHeartbeats 1000000 in
set_option maxRecDepth 100000 in
theorem c_X5_kindOf {l : Launch} {B kr kp : Nat} {D : va_G} {cI cJ cZ : ClassId} {h : Nat → Nat} {R : va_W} {th : Int32} {n : Nat} {L : Nat → Int64} {kt : Nat → Int32} {km : Nat → Int32} {kl : Nat → Int32} {pt : Nat → Int32} {pm : Nat → Int32} {pl : Nat → Int32} {nu : Nat → Int32} {le : Nat → Int32} {af : Nat → Int32} {run : Bool} {wc : Nat} {lc : Nat} {tr : Nat} {cl : Nat} {tm : Nat} {ms : Nat} {co : Nat} {yn : Nat} {yh : Nat → Int32} {pa : Int32} {mc : Nat → Int32} {key : Nat} {ow : Nat → Int32} {x : Nat}  (hk : key < 26) (hM : zMk af ow lc) (htr : tr < lc) (hlc : lc ≤ 48) (hx9 : le tr = nI x) (hx26 : x < 26) : Met l yX5_kindOf wsX5_kindOf ({ frames := 5, cells := 0, slots := 0, locals := 116 }) (zPc B kr kp D (zTy cI cJ cZ) (zWM cI cJ cZ h th (n, L) ((zcb kt pt), (zcb km pm), (zcb kl pl)) mc (run, wc, nu, lc, le, af, tr, ms, cl, tm) (co, yn, yh, pa) ++ R) [.ref (h 0), .int (nI key)]) (zQi B D (zWM cI cJ cZ h th (n, L) ((zcb kt pt), (zcb km pm), (zcb kl pl)) mc (run, wc, nu, lc, le, af, tr, ms, cl, tm) (co, yn, yh, pa) ++ R) (zkd (nI key) le ow lc tr)) 0 0 (zAb B) := by
  refine Met.ofW (cc := cX5_kindOf) (maxL := 3) (ret := (some .int)) (by decide) rfl ?_
  intro p e s m args below meth c s₁ B0 hml hv
  obtain ⟨rfl, hP, hD, hK, hE, hB⟩ := hv
  have hx := B0.exec
  have hb := B0.bytes
  have hr := B0.returns
  have hts := atoms_spec (ws := wsX5_kindOf) B0.pre
  have hown : s.vm.findClass RX5 = some m.cls := findClass_of_methodNamed B0.named
  have hlocks := B0.notSynchronized
  have hA : ∀ q : Nat, s.heap.size ≤ q → zAb B q := fun q hq => Nat.le_trans hB hq
  have hS : va_S (zAb B) s.heap s.heap [] := va_S.rf
  have hgr : s.heap.size ≤ s.heap.size := Nat.le_refl _
  have hl := lv_entry ([.ref (h 0), .int (nI key)]) (n := 3) (Nat.le_of_ble_eq_true rfl)
  rw [lg_entry_eq]
  generalize (lg_sl ([.ref (h 0), .int (nI key)]) ++ List.replicate (3 - (lg_sl ([.ref (h 0), .int (nI key)])).length) Slot.unset).toArray = ls at hl ⊢
  have hl : lv_has ls 3 [(0, .ref (h 0)), (1, .int (nI key))] := hl
  have hinX5 : ∀ w ∈ wsX50, w ∈ wsX5_kindOf := fun _ h => List.mem_cons_of_mem _ (List.mem_append_right _ h)
  have hP : va_P D vwCl (zWM cI cJ cZ h th (n, L) ((zcb kt pt), (zcb km pm), (zcb kl pl)) mc (run, wc, nu, lc, le, af, tr, ms, cl, tm) (co, yn, yh, pa) ++ R) s.heap := hP
  have hD : va_D (zAb B) (zWM cI cJ cZ h th (n, L) ((zcb kt pt), (zcb km pm), (zcb kl pl)) mc (run, wc, nu, lc, le, af, tr, ms, cl, tm) (co, yn, yh, pa) ++ R) := hD
  refine lv_iload_n hx hb dX5_kindOf_0 rfl (lv_at hl 1 rfl) ?_
  refine lv_aload_n hx hb dX5_kindOf_1 rfl (lv_at hl 0 rfl) ?_
  refine va_get (ci := 5) (v := .ref (h 7)) (C := RX5) (T := TX5) (N := 20) hx hb hts hinX5 hown hK hP 0 rfl rfl 11 (by decide) (hts (.fieldLink RX5 29 "TypingTutorModel" "text" "[I") (List.mem_of_getElem? (i := 1) rfl)) (fun _ h9 => h9) rfl dX5_kindOf_2 ?_
  refine lv_aload_n hx hb dX5_kindOf_5 rfl (lv_at hl 0 rfl) ?_
  refine va_get (ci := 5) (v := .int (nI tr)) (C := RX5) (T := TX5) (N := 20) hx hb hts hinX5 hown hK hP 0 rfl rfl 13 (by decide) (hts (.fieldLink RX5 110 "TypingTutorModel" "at" "I") (List.mem_of_getElem? (i := 2) rfl)) (fun _ h9 => h9) rfl dX5_kindOf_6 ?_
  refine va_iald hx hb hK hP 7 0 rfl rfl (vp_in_nI (n := tr) (N := 48) (by omega) (by omega)) dX5_kindOf_9 ?_
  rw [pk_cl (x := (nI tr)) tr (rfl) (by omega)]
  refine lv_icmp_ne (tgt := 15) hx hb dX5_kindOf_10 (by decide) (fun c_1 => ?_) (fun c_1 => ?_)
  · skip
    refine lv_aload_n hx hb dX5_kindOf_15 rfl (lv_at hl 0 rfl) ?_
    refine va_get (ci := 5) (v := .int (nI tr)) (C := RX5) (T := TX5) (N := 20) hx hb hts hinX5 hown hK hP 0 rfl rfl 13 (by decide) (hts (.fieldLink RX5 110 "TypingTutorModel" "at" "I") (List.mem_of_getElem? (i := 2) rfl)) (fun _ h9 => h9) rfl dX5_kindOf_16 ?_
    refine lv_iconst (v := 1) hx hb dX5_kindOf_19 (by decide) ?_
    refine lv_iadd hx hb dX5_kindOf_20 ?_
    refine lv_topi (fun v_2 ev_2 => ?_)
    obtain rfl : v_2 = (nI (tr + 1)) := ev_2.trans (nI_add tr 1)
    refine lv_aload_n hx hb dX5_kindOf_21 rfl (lv_at hl 0 rfl) ?_
    refine va_get (ci := 5) (v := .int (nI lc)) (C := RX5) (T := TX5) (N := 20) hx hb hts hinX5 hown hK hP 0 rfl rfl 10 (by decide) (hts (.fieldLink RX5 103 "TypingTutorModel" "letters" "I") (List.mem_of_getElem? (i := 3) rfl)) (fun _ h9 => h9) rfl dX5_kindOf_22 ?_
    refine lv_icmp_ge (tgt := 46) hx hb dX5_kindOf_25 (by decide) (fun c_3 => ?_) (fun c_3 => ?_)
    · skip
      have c_3 : lc ≤ (tr + 1) := (nI_leI (a := lc) (b := (tr + 1)) (by omega) (by omega)).mp c_3
      refine lv_iconst (v := 0) hx hb dX5_kindOf_46 (by decide) ?_
      refine lv_istore_n (lv' := [(2, .int 0), (0, .ref (h 0)), (1, .int (nI key))]) hx hb dX5_kindOf_47 rfl hl (by decide) rfl (fun ls hl => ?_)
      refine lv_iload_n hx hb dX5_kindOf_48 rfl (lv_at hl 0 rfl) ?_
      refine lv_if_eq (tgt := 69) hx hb dX5_kindOf_49 (by decide) (fun c_4 => ?_) (fun c_4 => ?_)
      · skip
        refine lv_aload_n hx hb dX5_kindOf_69 rfl (lv_at hl 1 rfl) ?_
        refine va_get (ci := 5) (v := .ref (h 8)) (C := RX5) (T := TX5) (N := 20) hx hb hts hinX5 hown hK hP 0 rfl rfl 12 (by decide) (hts (.fieldLink RX5 32 "TypingTutorModel" "areFirst" "[Z") (List.mem_of_getElem? (i := 4) rfl)) (fun _ h9 => h9) rfl dX5_kindOf_70 ?_
        refine lv_aload_n hx hb dX5_kindOf_73 rfl (lv_at hl 1 rfl) ?_
        refine va_get (ci := 5) (v := .int (nI tr)) (C := RX5) (T := TX5) (N := 20) hx hb hts hinX5 hown hK hP 0 rfl rfl 13 (by decide) (hts (.fieldLink RX5 110 "TypingTutorModel" "at" "I") (List.mem_of_getElem? (i := 2) rfl)) (fun _ h9 => h9) rfl dX5_kindOf_74 ?_
        refine va_zald hx hb hK hP 8 2 rfl rfl (vp_in_nI (n := tr) (N := 49) (by omega) (by omega)) dX5_kindOf_77 ?_
        rw [pk_cl (x := (nI tr)) tr (rfl) (by omega)]
        refine lv_if_ne (tgt := 98) hx hb dX5_kindOf_78 (by decide) (fun c_5 => ?_) (fun c_5 => ?_)
        · skip
          refine lv_iload_n hx hb dX5_kindOf_98 rfl (lv_at hl 2 rfl) ?_
          refine lv_aload_n hx hb dX5_kindOf_99 rfl (lv_at hl 1 rfl) ?_
          refine va_get (ci := 5) (v := .ref (h 7)) (C := RX5) (T := TX5) (N := 20) hx hb hts hinX5 hown hK hP 0 rfl rfl 11 (by decide) (hts (.fieldLink RX5 29 "TypingTutorModel" "text" "[I") (List.mem_of_getElem? (i := 1) rfl)) (fun _ h9 => h9) rfl dX5_kindOf_100 ?_
          refine lv_aload_n hx hb dX5_kindOf_103 rfl (lv_at hl 1 rfl) ?_
          refine va_get (ci := 5) (v := .int (nI tr)) (C := RX5) (T := TX5) (N := 20) hx hb hts hinX5 hown hK hP 0 rfl rfl 13 (by decide) (hts (.fieldLink RX5 110 "TypingTutorModel" "at" "I") (List.mem_of_getElem? (i := 2) rfl)) (fun _ h9 => h9) rfl dX5_kindOf_104 ?_
          refine va_iald hx hb hK hP 7 0 rfl rfl (vp_in_nI (n := tr) (N := 48) (by omega) (by omega)) dX5_kindOf_107 ?_
          rw [pk_cl (x := (nI tr)) tr (rfl) (by omega)]
          refine lv_topi (fun v_6 ev_6 => ?_)
          obtain rfl : v_6 = (nI x) := ev_6.trans (hx9)
          refine zci (zrS (As := [.int (nI key), .int (nI x)]) (rest := []) ⟨hx, hb, hml, hown, hts⟩ (zS hP hD hK hE hB hS) (c_X5_nearTo (a := key) (b := x) (hk) (hx26)) (va_cwS 2 hts gX5_kindOf_X5_nearTo rfl rfl rfl hds_X5_nearTo ⟨Nat.le_of_ble_eq_true rfl, Nat.le_of_ble_eq_true rfl⟩) rfl rfl hl.1 rfl (lv_room (Nat.le_of_ble_eq_true rfl)) dX5_kindOf_108 ⟨Nat.le_of_ble_eq_true rfl, Nat.le_of_ble_eq_true rfl⟩) hS (fun H locs hP hD hS => ?_)
          have hP : va_P D vwCl (zWM cI cJ cZ h th (n, L) ((zcb kt pt), (zcb km pm), (zcb kl pl)) mc (run, wc, nu, lc, le, af, tr, ms, cl, tm) (co, yn, yh, pa) ++ R) _ := hP
          have hD : va_D (zAb B) (zWM cI cJ cZ h th (n, L) ((zcb kt pt), (zcb km pm), (zcb kl pl)) mc (run, wc, nu, lc, le, af, tr, ms, cl, tm) (co, yn, yh, pa) ++ R) := hD
          refine lv_if_eq (tgt := 118) hx hb dX5_kindOf_111 (by decide) (fun c_7 => ?_) (fun c_7 => ?_)
          · skip
            have c_7 : (zst (nI key) (nI x)) = false := zb_0 c_7
            refine lv_iconst (v := 4) hx hb dX5_kindOf_118 (by decide) ?_
            exact W.iret (v := 4) hx hb hr (fun t ht hW => ⟨⟨_, (), rfl, ((if_neg c_1).trans ((if_neg (fun q => nI_m1 (show key < 2147483648 by omega) (q.trans (zis_nf htr hlc (fun q => absurd q (by omega)))))).trans ((if_neg (fun q => nI_m1 (show key < 2147483648 by omega) (q.trans (zis_pf htr hlc (fun q q2 => c_5 ((hM tr htr).mpr ⟨q, q2⟩)))))).trans (if_neg (by rw [hx9, c_7]; decide))))).symm, by rw [ht]; exact hP, hD⟩, hS.F ht⟩) hS.2.2 dX5_kindOf_119
          · skip
            have c_7 : (zst (nI key) (nI x)) = true := zb_n c_7
            refine lv_iconst (v := 3) hx hb dX5_kindOf_114 (by decide) ?_
            refine lv_goto (tgt := 119) hx hb dX5_kindOf_115 (by decide) ?_
            exact W.iret (v := 3) hx hb hr (fun t ht hW => ⟨⟨_, (), rfl, ((if_neg c_1).trans ((if_neg (fun q => nI_m1 (show key < 2147483648 by omega) (q.trans (zis_nf htr hlc (fun q => absurd q (by omega)))))).trans ((if_neg (fun q => nI_m1 (show key < 2147483648 by omega) (q.trans (zis_pf htr hlc (fun q q2 => c_5 ((hM tr htr).mpr ⟨q, q2⟩)))))).trans (if_pos (by rw [hx9]; exact c_7))))).symm, by rw [ht]; exact hP, hD⟩, hS.F ht⟩) hS.2.2 dX5_kindOf_119
        · skip
          have h0 := ((hM tr htr).mp c_5).1
          refine lv_aload_n hx hb dX5_kindOf_81 rfl (lv_at hl 1 rfl) ?_
          refine va_get (ci := 5) (v := .ref (h 7)) (C := RX5) (T := TX5) (N := 20) hx hb hts hinX5 hown hK hP 0 rfl rfl 11 (by decide) (hts (.fieldLink RX5 29 "TypingTutorModel" "text" "[I") (List.mem_of_getElem? (i := 1) rfl)) (fun _ h9 => h9) rfl dX5_kindOf_82 ?_
          refine lv_aload_n hx hb dX5_kindOf_85 rfl (lv_at hl 1 rfl) ?_
          refine va_get (ci := 5) (v := .int (nI tr)) (C := RX5) (T := TX5) (N := 20) hx hb hts hinX5 hown hK hP 0 rfl rfl 13 (by decide) (hts (.fieldLink RX5 110 "TypingTutorModel" "at" "I") (List.mem_of_getElem? (i := 2) rfl)) (fun _ h9 => h9) rfl dX5_kindOf_86 ?_
          refine lv_iconst (v := 1) hx hb dX5_kindOf_89 (by decide) ?_
          refine lv_isub hx hb dX5_kindOf_90 ?_
          refine lv_topi (fun v_8 ev_8 => ?_)
          obtain rfl : v_8 = (nI (tr - 1)) := ev_8.trans (pk_sub (a := tr) (b := 1) (by omega))
          refine va_iald hx hb hK hP 7 0 rfl rfl (vp_in_nI (n := (tr - 1)) (N := 48) (by omega) (by omega)) dX5_kindOf_91 ?_
          rw [pk_cl (x := (nI (tr - 1))) (tr - 1) (rfl) (by omega)]
          refine lv_iload_n hx hb dX5_kindOf_92 rfl (lv_at hl 2 rfl) ?_
          refine lv_icmp_ne (tgt := 98) hx hb dX5_kindOf_93 (by decide) (fun c_9 => ?_) (fun c_9 => ?_)
          · skip
            refine lv_iload_n hx hb dX5_kindOf_98 rfl (lv_at hl 2 rfl) ?_
            refine lv_aload_n hx hb dX5_kindOf_99 rfl (lv_at hl 1 rfl) ?_
            refine va_get (ci := 5) (v := .ref (h 7)) (C := RX5) (T := TX5) (N := 20) hx hb hts hinX5 hown hK hP 0 rfl rfl 11 (by decide) (hts (.fieldLink RX5 29 "TypingTutorModel" "text" "[I") (List.mem_of_getElem? (i := 1) rfl)) (fun _ h9 => h9) rfl dX5_kindOf_100 ?_
            refine lv_aload_n hx hb dX5_kindOf_103 rfl (lv_at hl 1 rfl) ?_
            refine va_get (ci := 5) (v := .int (nI tr)) (C := RX5) (T := TX5) (N := 20) hx hb hts hinX5 hown hK hP 0 rfl rfl 13 (by decide) (hts (.fieldLink RX5 110 "TypingTutorModel" "at" "I") (List.mem_of_getElem? (i := 2) rfl)) (fun _ h9 => h9) rfl dX5_kindOf_104 ?_
            refine va_iald hx hb hK hP 7 0 rfl rfl (vp_in_nI (n := tr) (N := 48) (by omega) (by omega)) dX5_kindOf_107 ?_
            rw [pk_cl (x := (nI tr)) tr (rfl) (by omega)]
            refine lv_topi (fun v_10 ev_10 => ?_)
            obtain rfl : v_10 = (nI x) := ev_10.trans (hx9)
            refine zci (zrS (As := [.int (nI key), .int (nI x)]) (rest := []) ⟨hx, hb, hml, hown, hts⟩ (zS hP hD hK hE hB hS) (c_X5_nearTo (a := key) (b := x) (hk) (hx26)) (va_cwS 2 hts gX5_kindOf_X5_nearTo rfl rfl rfl hds_X5_nearTo ⟨Nat.le_of_ble_eq_true rfl, Nat.le_of_ble_eq_true rfl⟩) rfl rfl hl.1 rfl (lv_room (Nat.le_of_ble_eq_true rfl)) dX5_kindOf_108 ⟨Nat.le_of_ble_eq_true rfl, Nat.le_of_ble_eq_true rfl⟩) hS (fun H locs hP hD hS => ?_)
            have hP : va_P D vwCl (zWM cI cJ cZ h th (n, L) ((zcb kt pt), (zcb km pm), (zcb kl pl)) mc (run, wc, nu, lc, le, af, tr, ms, cl, tm) (co, yn, yh, pa) ++ R) _ := hP
            have hD : va_D (zAb B) (zWM cI cJ cZ h th (n, L) ((zcb kt pt), (zcb km pm), (zcb kl pl)) mc (run, wc, nu, lc, le, af, tr, ms, cl, tm) (co, yn, yh, pa) ++ R) := hD
            refine lv_if_eq (tgt := 118) hx hb dX5_kindOf_111 (by decide) (fun c_11 => ?_) (fun c_11 => ?_)
            · skip
              have c_11 : (zst (nI key) (nI x)) = false := zb_0 c_11
              refine lv_iconst (v := 4) hx hb dX5_kindOf_118 (by decide) ?_
              exact W.iret (v := 4) hx hb hr (fun t ht hW => ⟨⟨_, (), rfl, ((if_neg c_1).trans ((if_neg (fun q => nI_m1 (show key < 2147483648 by omega) (q.trans (zis_nf htr hlc (fun q => absurd q (by omega)))))).trans ((if_neg (fun q => c_9 ((zis_pt h0 htr hlc ((hM tr htr).mp c_5).2).symm.trans q.symm))).trans (if_neg (by rw [hx9, c_11]; decide))))).symm, by rw [ht]; exact hP, hD⟩, hS.F ht⟩) hS.2.2 dX5_kindOf_119
            · skip
              have c_11 : (zst (nI key) (nI x)) = true := zb_n c_11
              refine lv_iconst (v := 3) hx hb dX5_kindOf_114 (by decide) ?_
              refine lv_goto (tgt := 119) hx hb dX5_kindOf_115 (by decide) ?_
              exact W.iret (v := 3) hx hb hr (fun t ht hW => ⟨⟨_, (), rfl, ((if_neg c_1).trans ((if_neg (fun q => nI_m1 (show key < 2147483648 by omega) (q.trans (zis_nf htr hlc (fun q => absurd q (by omega)))))).trans ((if_neg (fun q => c_9 ((zis_pt h0 htr hlc ((hM tr htr).mp c_5).2).symm.trans q.symm))).trans (if_pos (by rw [hx9]; exact c_11))))).symm, by rw [ht]; exact hP, hD⟩, hS.F ht⟩) hS.2.2 dX5_kindOf_119
          · skip
            refine lv_iconst (v := 2) hx hb dX5_kindOf_96 (by decide) ?_
            exact W.iret (v := 2) hx hb hr (fun t ht hW => ⟨⟨_, (), rfl, ((if_neg c_1).trans ((if_neg (fun q => nI_m1 (show key < 2147483648 by omega) (q.trans (zis_nf htr hlc (fun q => absurd q (by omega)))))).trans (if_pos (c_9.symm.trans (zis_pt h0 htr hlc ((hM tr htr).mp c_5).2).symm)))).symm, by rw [ht]; exact hP, hD⟩, hS.F ht⟩) hS.2.2 dX5_kindOf_97
      · skip
        exfalso; first | omega | (revert c_4; decide) | (exact absurd rfl c_4) | simp_all
    · skip
      have c_3 : ¬ lc ≤ (tr + 1) := fun hh => c_3 ((nI_leI (a := lc) (b := (tr + 1)) (by omega) (by omega)).mpr hh)
      refine lv_aload_n hx hb dX5_kindOf_28 rfl (lv_at hl 0 rfl) ?_
      refine va_get (ci := 5) (v := .ref (h 8)) (C := RX5) (T := TX5) (N := 20) hx hb hts hinX5 hown hK hP 0 rfl rfl 12 (by decide) (hts (.fieldLink RX5 32 "TypingTutorModel" "areFirst" "[Z") (List.mem_of_getElem? (i := 4) rfl)) (fun _ h9 => h9) rfl dX5_kindOf_29 ?_
      refine lv_aload_n hx hb dX5_kindOf_32 rfl (lv_at hl 0 rfl) ?_
      refine va_get (ci := 5) (v := .int (nI tr)) (C := RX5) (T := TX5) (N := 20) hx hb hts hinX5 hown hK hP 0 rfl rfl 13 (by decide) (hts (.fieldLink RX5 110 "TypingTutorModel" "at" "I") (List.mem_of_getElem? (i := 2) rfl)) (fun _ h9 => h9) rfl dX5_kindOf_33 ?_
      refine lv_iconst (v := 1) hx hb dX5_kindOf_36 (by decide) ?_
      refine lv_iadd hx hb dX5_kindOf_37 ?_
      refine lv_topi (fun v_12 ev_12 => ?_)
      obtain rfl : v_12 = (nI (tr + 1)) := ev_12.trans (nI_add tr 1)
      refine va_zald hx hb hK hP 8 2 rfl rfl (vp_in_nI (n := (tr + 1)) (N := 49) (by omega) (by omega)) dX5_kindOf_38 ?_
      rw [pk_cl (x := (nI (tr + 1))) (tr + 1) (rfl) (by omega)]
      refine lv_if_ne (tgt := 46) hx hb dX5_kindOf_39 (by decide) (fun c_13 => ?_) (fun c_13 => ?_)
      · skip
        refine lv_iconst (v := 0) hx hb dX5_kindOf_46 (by decide) ?_
        refine lv_istore_n (lv' := [(2, .int 0), (0, .ref (h 0)), (1, .int (nI key))]) hx hb dX5_kindOf_47 rfl hl (by decide) rfl (fun ls hl => ?_)
        refine lv_iload_n hx hb dX5_kindOf_48 rfl (lv_at hl 0 rfl) ?_
        refine lv_if_eq (tgt := 69) hx hb dX5_kindOf_49 (by decide) (fun c_14 => ?_) (fun c_14 => ?_)
        · skip
          refine lv_aload_n hx hb dX5_kindOf_69 rfl (lv_at hl 1 rfl) ?_
          refine va_get (ci := 5) (v := .ref (h 8)) (C := RX5) (T := TX5) (N := 20) hx hb hts hinX5 hown hK hP 0 rfl rfl 12 (by decide) (hts (.fieldLink RX5 32 "TypingTutorModel" "areFirst" "[Z") (List.mem_of_getElem? (i := 4) rfl)) (fun _ h9 => h9) rfl dX5_kindOf_70 ?_
          refine lv_aload_n hx hb dX5_kindOf_73 rfl (lv_at hl 1 rfl) ?_
          refine va_get (ci := 5) (v := .int (nI tr)) (C := RX5) (T := TX5) (N := 20) hx hb hts hinX5 hown hK hP 0 rfl rfl 13 (by decide) (hts (.fieldLink RX5 110 "TypingTutorModel" "at" "I") (List.mem_of_getElem? (i := 2) rfl)) (fun _ h9 => h9) rfl dX5_kindOf_74 ?_
          refine va_zald hx hb hK hP 8 2 rfl rfl (vp_in_nI (n := tr) (N := 49) (by omega) (by omega)) dX5_kindOf_77 ?_
          rw [pk_cl (x := (nI tr)) tr (rfl) (by omega)]
          refine lv_if_ne (tgt := 98) hx hb dX5_kindOf_78 (by decide) (fun c_15 => ?_) (fun c_15 => ?_)
          · skip
            refine lv_iload_n hx hb dX5_kindOf_98 rfl (lv_at hl 2 rfl) ?_
            refine lv_aload_n hx hb dX5_kindOf_99 rfl (lv_at hl 1 rfl) ?_
            refine va_get (ci := 5) (v := .ref (h 7)) (C := RX5) (T := TX5) (N := 20) hx hb hts hinX5 hown hK hP 0 rfl rfl 11 (by decide) (hts (.fieldLink RX5 29 "TypingTutorModel" "text" "[I") (List.mem_of_getElem? (i := 1) rfl)) (fun _ h9 => h9) rfl dX5_kindOf_100 ?_
            refine lv_aload_n hx hb dX5_kindOf_103 rfl (lv_at hl 1 rfl) ?_
            refine va_get (ci := 5) (v := .int (nI tr)) (C := RX5) (T := TX5) (N := 20) hx hb hts hinX5 hown hK hP 0 rfl rfl 13 (by decide) (hts (.fieldLink RX5 110 "TypingTutorModel" "at" "I") (List.mem_of_getElem? (i := 2) rfl)) (fun _ h9 => h9) rfl dX5_kindOf_104 ?_
            refine va_iald hx hb hK hP 7 0 rfl rfl (vp_in_nI (n := tr) (N := 48) (by omega) (by omega)) dX5_kindOf_107 ?_
            rw [pk_cl (x := (nI tr)) tr (rfl) (by omega)]
            refine lv_topi (fun v_16 ev_16 => ?_)
            obtain rfl : v_16 = (nI x) := ev_16.trans (hx9)
            refine zci (zrS (As := [.int (nI key), .int (nI x)]) (rest := []) ⟨hx, hb, hml, hown, hts⟩ (zS hP hD hK hE hB hS) (c_X5_nearTo (a := key) (b := x) (hk) (hx26)) (va_cwS 2 hts gX5_kindOf_X5_nearTo rfl rfl rfl hds_X5_nearTo ⟨Nat.le_of_ble_eq_true rfl, Nat.le_of_ble_eq_true rfl⟩) rfl rfl hl.1 rfl (lv_room (Nat.le_of_ble_eq_true rfl)) dX5_kindOf_108 ⟨Nat.le_of_ble_eq_true rfl, Nat.le_of_ble_eq_true rfl⟩) hS (fun H locs hP hD hS => ?_)
            have hP : va_P D vwCl (zWM cI cJ cZ h th (n, L) ((zcb kt pt), (zcb km pm), (zcb kl pl)) mc (run, wc, nu, lc, le, af, tr, ms, cl, tm) (co, yn, yh, pa) ++ R) _ := hP
            have hD : va_D (zAb B) (zWM cI cJ cZ h th (n, L) ((zcb kt pt), (zcb km pm), (zcb kl pl)) mc (run, wc, nu, lc, le, af, tr, ms, cl, tm) (co, yn, yh, pa) ++ R) := hD
            refine lv_if_eq (tgt := 118) hx hb dX5_kindOf_111 (by decide) (fun c_17 => ?_) (fun c_17 => ?_)
            · skip
              have c_17 : (zst (nI key) (nI x)) = false := zb_0 c_17
              refine lv_iconst (v := 4) hx hb dX5_kindOf_118 (by decide) ?_
              exact W.iret (v := 4) hx hb hr (fun t ht hW => ⟨⟨_, (), rfl, ((if_neg c_1).trans ((if_neg (fun q => nI_m1 (show key < 2147483648 by omega) (q.trans (zis_nf htr hlc (fun q q2 => c_13 ((hM (tr + 1) q).mpr ⟨Nat.succ_pos _, q2.symm⟩)))))).trans ((if_neg (fun q => nI_m1 (show key < 2147483648 by omega) (q.trans (zis_pf htr hlc (fun q q2 => c_15 ((hM tr htr).mpr ⟨q, q2⟩)))))).trans (if_neg (by rw [hx9, c_17]; decide))))).symm, by rw [ht]; exact hP, hD⟩, hS.F ht⟩) hS.2.2 dX5_kindOf_119
            · skip
              have c_17 : (zst (nI key) (nI x)) = true := zb_n c_17
              refine lv_iconst (v := 3) hx hb dX5_kindOf_114 (by decide) ?_
              refine lv_goto (tgt := 119) hx hb dX5_kindOf_115 (by decide) ?_
              exact W.iret (v := 3) hx hb hr (fun t ht hW => ⟨⟨_, (), rfl, ((if_neg c_1).trans ((if_neg (fun q => nI_m1 (show key < 2147483648 by omega) (q.trans (zis_nf htr hlc (fun q q2 => c_13 ((hM (tr + 1) q).mpr ⟨Nat.succ_pos _, q2.symm⟩)))))).trans ((if_neg (fun q => nI_m1 (show key < 2147483648 by omega) (q.trans (zis_pf htr hlc (fun q q2 => c_15 ((hM tr htr).mpr ⟨q, q2⟩)))))).trans (if_pos (by rw [hx9]; exact c_17))))).symm, by rw [ht]; exact hP, hD⟩, hS.F ht⟩) hS.2.2 dX5_kindOf_119
          · skip
            have h0 := ((hM tr htr).mp c_15).1
            refine lv_aload_n hx hb dX5_kindOf_81 rfl (lv_at hl 1 rfl) ?_
            refine va_get (ci := 5) (v := .ref (h 7)) (C := RX5) (T := TX5) (N := 20) hx hb hts hinX5 hown hK hP 0 rfl rfl 11 (by decide) (hts (.fieldLink RX5 29 "TypingTutorModel" "text" "[I") (List.mem_of_getElem? (i := 1) rfl)) (fun _ h9 => h9) rfl dX5_kindOf_82 ?_
            refine lv_aload_n hx hb dX5_kindOf_85 rfl (lv_at hl 1 rfl) ?_
            refine va_get (ci := 5) (v := .int (nI tr)) (C := RX5) (T := TX5) (N := 20) hx hb hts hinX5 hown hK hP 0 rfl rfl 13 (by decide) (hts (.fieldLink RX5 110 "TypingTutorModel" "at" "I") (List.mem_of_getElem? (i := 2) rfl)) (fun _ h9 => h9) rfl dX5_kindOf_86 ?_
            refine lv_iconst (v := 1) hx hb dX5_kindOf_89 (by decide) ?_
            refine lv_isub hx hb dX5_kindOf_90 ?_
            refine lv_topi (fun v_18 ev_18 => ?_)
            obtain rfl : v_18 = (nI (tr - 1)) := ev_18.trans (pk_sub (a := tr) (b := 1) (by omega))
            refine va_iald hx hb hK hP 7 0 rfl rfl (vp_in_nI (n := (tr - 1)) (N := 48) (by omega) (by omega)) dX5_kindOf_91 ?_
            rw [pk_cl (x := (nI (tr - 1))) (tr - 1) (rfl) (by omega)]
            refine lv_iload_n hx hb dX5_kindOf_92 rfl (lv_at hl 2 rfl) ?_
            refine lv_icmp_ne (tgt := 98) hx hb dX5_kindOf_93 (by decide) (fun c_19 => ?_) (fun c_19 => ?_)
            · skip
              refine lv_iload_n hx hb dX5_kindOf_98 rfl (lv_at hl 2 rfl) ?_
              refine lv_aload_n hx hb dX5_kindOf_99 rfl (lv_at hl 1 rfl) ?_
              refine va_get (ci := 5) (v := .ref (h 7)) (C := RX5) (T := TX5) (N := 20) hx hb hts hinX5 hown hK hP 0 rfl rfl 11 (by decide) (hts (.fieldLink RX5 29 "TypingTutorModel" "text" "[I") (List.mem_of_getElem? (i := 1) rfl)) (fun _ h9 => h9) rfl dX5_kindOf_100 ?_
              refine lv_aload_n hx hb dX5_kindOf_103 rfl (lv_at hl 1 rfl) ?_
              refine va_get (ci := 5) (v := .int (nI tr)) (C := RX5) (T := TX5) (N := 20) hx hb hts hinX5 hown hK hP 0 rfl rfl 13 (by decide) (hts (.fieldLink RX5 110 "TypingTutorModel" "at" "I") (List.mem_of_getElem? (i := 2) rfl)) (fun _ h9 => h9) rfl dX5_kindOf_104 ?_
              refine va_iald hx hb hK hP 7 0 rfl rfl (vp_in_nI (n := tr) (N := 48) (by omega) (by omega)) dX5_kindOf_107 ?_
              rw [pk_cl (x := (nI tr)) tr (rfl) (by omega)]
              refine lv_topi (fun v_20 ev_20 => ?_)
              obtain rfl : v_20 = (nI x) := ev_20.trans (hx9)
              refine zci (zrS (As := [.int (nI key), .int (nI x)]) (rest := []) ⟨hx, hb, hml, hown, hts⟩ (zS hP hD hK hE hB hS) (c_X5_nearTo (a := key) (b := x) (hk) (hx26)) (va_cwS 2 hts gX5_kindOf_X5_nearTo rfl rfl rfl hds_X5_nearTo ⟨Nat.le_of_ble_eq_true rfl, Nat.le_of_ble_eq_true rfl⟩) rfl rfl hl.1 rfl (lv_room (Nat.le_of_ble_eq_true rfl)) dX5_kindOf_108 ⟨Nat.le_of_ble_eq_true rfl, Nat.le_of_ble_eq_true rfl⟩) hS (fun H locs hP hD hS => ?_)
              have hP : va_P D vwCl (zWM cI cJ cZ h th (n, L) ((zcb kt pt), (zcb km pm), (zcb kl pl)) mc (run, wc, nu, lc, le, af, tr, ms, cl, tm) (co, yn, yh, pa) ++ R) _ := hP
              have hD : va_D (zAb B) (zWM cI cJ cZ h th (n, L) ((zcb kt pt), (zcb km pm), (zcb kl pl)) mc (run, wc, nu, lc, le, af, tr, ms, cl, tm) (co, yn, yh, pa) ++ R) := hD
              refine lv_if_eq (tgt := 118) hx hb dX5_kindOf_111 (by decide) (fun c_21 => ?_) (fun c_21 => ?_)
              · skip
                have c_21 : (zst (nI key) (nI x)) = false := zb_0 c_21
                refine lv_iconst (v := 4) hx hb dX5_kindOf_118 (by decide) ?_
                exact W.iret (v := 4) hx hb hr (fun t ht hW => ⟨⟨_, (), rfl, ((if_neg c_1).trans ((if_neg (fun q => nI_m1 (show key < 2147483648 by omega) (q.trans (zis_nf htr hlc (fun q q2 => c_13 ((hM (tr + 1) q).mpr ⟨Nat.succ_pos _, q2.symm⟩)))))).trans ((if_neg (fun q => c_19 ((zis_pt h0 htr hlc ((hM tr htr).mp c_15).2).symm.trans q.symm))).trans (if_neg (by rw [hx9, c_21]; decide))))).symm, by rw [ht]; exact hP, hD⟩, hS.F ht⟩) hS.2.2 dX5_kindOf_119
              · skip
                have c_21 : (zst (nI key) (nI x)) = true := zb_n c_21
                refine lv_iconst (v := 3) hx hb dX5_kindOf_114 (by decide) ?_
                refine lv_goto (tgt := 119) hx hb dX5_kindOf_115 (by decide) ?_
                exact W.iret (v := 3) hx hb hr (fun t ht hW => ⟨⟨_, (), rfl, ((if_neg c_1).trans ((if_neg (fun q => nI_m1 (show key < 2147483648 by omega) (q.trans (zis_nf htr hlc (fun q q2 => c_13 ((hM (tr + 1) q).mpr ⟨Nat.succ_pos _, q2.symm⟩)))))).trans ((if_neg (fun q => c_19 ((zis_pt h0 htr hlc ((hM tr htr).mp c_15).2).symm.trans q.symm))).trans (if_pos (by rw [hx9]; exact c_21))))).symm, by rw [ht]; exact hP, hD⟩, hS.F ht⟩) hS.2.2 dX5_kindOf_119
            · skip
              refine lv_iconst (v := 2) hx hb dX5_kindOf_96 (by decide) ?_
              exact W.iret (v := 2) hx hb hr (fun t ht hW => ⟨⟨_, (), rfl, ((if_neg c_1).trans ((if_neg (fun q => nI_m1 (show key < 2147483648 by omega) (q.trans (zis_nf htr hlc (fun q q2 => c_13 ((hM (tr + 1) q).mpr ⟨Nat.succ_pos _, q2.symm⟩)))))).trans (if_pos (c_19.symm.trans (zis_pt h0 htr hlc ((hM tr htr).mp c_15).2).symm)))).symm, by rw [ht]; exact hP, hD⟩, hS.F ht⟩) hS.2.2 dX5_kindOf_97
        · skip
          exfalso; first | omega | (revert c_14; decide) | (exact absurd rfl c_14) | simp_all
      · skip
        refine lv_iconst (v := 1) hx hb dX5_kindOf_42 (by decide) ?_
        refine lv_goto (tgt := 47) hx hb dX5_kindOf_43 (by decide) ?_
        refine lv_istore_n (lv' := [(2, .int 1), (0, .ref (h 0)), (1, .int (nI key))]) hx hb dX5_kindOf_47 rfl hl (by decide) rfl (fun ls hl => ?_)
        refine lv_iload_n hx hb dX5_kindOf_48 rfl (lv_at hl 0 rfl) ?_
        refine lv_if_eq (tgt := 69) hx hb dX5_kindOf_49 (by decide) (fun c_22 => ?_) (fun c_22 => ?_)
        · skip
          exfalso; first | omega | (revert c_22; decide) | (exact absurd rfl c_22) | simp_all
        · skip
          refine lv_aload_n hx hb dX5_kindOf_52 rfl (lv_at hl 1 rfl) ?_
          refine va_get (ci := 5) (v := .ref (h 7)) (C := RX5) (T := TX5) (N := 20) hx hb hts hinX5 hown hK hP 0 rfl rfl 11 (by decide) (hts (.fieldLink RX5 29 "TypingTutorModel" "text" "[I") (List.mem_of_getElem? (i := 1) rfl)) (fun _ h9 => h9) rfl dX5_kindOf_53 ?_
          refine lv_aload_n hx hb dX5_kindOf_56 rfl (lv_at hl 1 rfl) ?_
          refine va_get (ci := 5) (v := .int (nI tr)) (C := RX5) (T := TX5) (N := 20) hx hb hts hinX5 hown hK hP 0 rfl rfl 13 (by decide) (hts (.fieldLink RX5 110 "TypingTutorModel" "at" "I") (List.mem_of_getElem? (i := 2) rfl)) (fun _ h9 => h9) rfl dX5_kindOf_57 ?_
          refine lv_iconst (v := 1) hx hb dX5_kindOf_60 (by decide) ?_
          refine lv_iadd hx hb dX5_kindOf_61 ?_
          refine lv_topi (fun v_23 ev_23 => ?_)
          obtain rfl : v_23 = (nI (tr + 1)) := ev_23.trans (nI_add tr 1)
          refine va_iald hx hb hK hP 7 0 rfl rfl (vp_in_nI (n := (tr + 1)) (N := 48) (by omega) (by omega)) dX5_kindOf_62 ?_
          rw [pk_cl (x := (nI (tr + 1))) (tr + 1) (rfl) (by omega)]
          refine lv_iload_n hx hb dX5_kindOf_63 rfl (lv_at hl 2 rfl) ?_
          refine lv_icmp_ne (tgt := 69) hx hb dX5_kindOf_64 (by decide) (fun c_24 => ?_) (fun c_24 => ?_)
          · skip
            refine lv_aload_n hx hb dX5_kindOf_69 rfl (lv_at hl 1 rfl) ?_
            refine va_get (ci := 5) (v := .ref (h 8)) (C := RX5) (T := TX5) (N := 20) hx hb hts hinX5 hown hK hP 0 rfl rfl 12 (by decide) (hts (.fieldLink RX5 32 "TypingTutorModel" "areFirst" "[Z") (List.mem_of_getElem? (i := 4) rfl)) (fun _ h9 => h9) rfl dX5_kindOf_70 ?_
            refine lv_aload_n hx hb dX5_kindOf_73 rfl (lv_at hl 1 rfl) ?_
            refine va_get (ci := 5) (v := .int (nI tr)) (C := RX5) (T := TX5) (N := 20) hx hb hts hinX5 hown hK hP 0 rfl rfl 13 (by decide) (hts (.fieldLink RX5 110 "TypingTutorModel" "at" "I") (List.mem_of_getElem? (i := 2) rfl)) (fun _ h9 => h9) rfl dX5_kindOf_74 ?_
            refine va_zald hx hb hK hP 8 2 rfl rfl (vp_in_nI (n := tr) (N := 49) (by omega) (by omega)) dX5_kindOf_77 ?_
            rw [pk_cl (x := (nI tr)) tr (rfl) (by omega)]
            refine lv_if_ne (tgt := 98) hx hb dX5_kindOf_78 (by decide) (fun c_25 => ?_) (fun c_25 => ?_)
            · skip
              refine lv_iload_n hx hb dX5_kindOf_98 rfl (lv_at hl 2 rfl) ?_
              refine lv_aload_n hx hb dX5_kindOf_99 rfl (lv_at hl 1 rfl) ?_
              refine va_get (ci := 5) (v := .ref (h 7)) (C := RX5) (T := TX5) (N := 20) hx hb hts hinX5 hown hK hP 0 rfl rfl 11 (by decide) (hts (.fieldLink RX5 29 "TypingTutorModel" "text" "[I") (List.mem_of_getElem? (i := 1) rfl)) (fun _ h9 => h9) rfl dX5_kindOf_100 ?_
              refine lv_aload_n hx hb dX5_kindOf_103 rfl (lv_at hl 1 rfl) ?_
              refine va_get (ci := 5) (v := .int (nI tr)) (C := RX5) (T := TX5) (N := 20) hx hb hts hinX5 hown hK hP 0 rfl rfl 13 (by decide) (hts (.fieldLink RX5 110 "TypingTutorModel" "at" "I") (List.mem_of_getElem? (i := 2) rfl)) (fun _ h9 => h9) rfl dX5_kindOf_104 ?_
              refine va_iald hx hb hK hP 7 0 rfl rfl (vp_in_nI (n := tr) (N := 48) (by omega) (by omega)) dX5_kindOf_107 ?_
              rw [pk_cl (x := (nI tr)) tr (rfl) (by omega)]
              refine lv_topi (fun v_26 ev_26 => ?_)
              obtain rfl : v_26 = (nI x) := ev_26.trans (hx9)
              refine zci (zrS (As := [.int (nI key), .int (nI x)]) (rest := []) ⟨hx, hb, hml, hown, hts⟩ (zS hP hD hK hE hB hS) (c_X5_nearTo (a := key) (b := x) (hk) (hx26)) (va_cwS 2 hts gX5_kindOf_X5_nearTo rfl rfl rfl hds_X5_nearTo ⟨Nat.le_of_ble_eq_true rfl, Nat.le_of_ble_eq_true rfl⟩) rfl rfl hl.1 rfl (lv_room (Nat.le_of_ble_eq_true rfl)) dX5_kindOf_108 ⟨Nat.le_of_ble_eq_true rfl, Nat.le_of_ble_eq_true rfl⟩) hS (fun H locs hP hD hS => ?_)
              have hP : va_P D vwCl (zWM cI cJ cZ h th (n, L) ((zcb kt pt), (zcb km pm), (zcb kl pl)) mc (run, wc, nu, lc, le, af, tr, ms, cl, tm) (co, yn, yh, pa) ++ R) _ := hP
              have hD : va_D (zAb B) (zWM cI cJ cZ h th (n, L) ((zcb kt pt), (zcb km pm), (zcb kl pl)) mc (run, wc, nu, lc, le, af, tr, ms, cl, tm) (co, yn, yh, pa) ++ R) := hD
              refine lv_if_eq (tgt := 118) hx hb dX5_kindOf_111 (by decide) (fun c_27 => ?_) (fun c_27 => ?_)
              · skip
                have c_27 : (zst (nI key) (nI x)) = false := zb_0 c_27
                refine lv_iconst (v := 4) hx hb dX5_kindOf_118 (by decide) ?_
                exact W.iret (v := 4) hx hb hr (fun t ht hW => ⟨⟨_, (), rfl, ((if_neg c_1).trans ((if_neg (fun q => c_24 ((zis_nt (show tr + 1 < lc by omega) hlc (((hM (tr + 1) (by omega)).mp c_13).2).symm).symm.trans q.symm))).trans ((if_neg (fun q => nI_m1 (show key < 2147483648 by omega) (q.trans (zis_pf htr hlc (fun q q2 => c_25 ((hM tr htr).mpr ⟨q, q2⟩)))))).trans (if_neg (by rw [hx9, c_27]; decide))))).symm, by rw [ht]; exact hP, hD⟩, hS.F ht⟩) hS.2.2 dX5_kindOf_119
              · skip
                have c_27 : (zst (nI key) (nI x)) = true := zb_n c_27
                refine lv_iconst (v := 3) hx hb dX5_kindOf_114 (by decide) ?_
                refine lv_goto (tgt := 119) hx hb dX5_kindOf_115 (by decide) ?_
                exact W.iret (v := 3) hx hb hr (fun t ht hW => ⟨⟨_, (), rfl, ((if_neg c_1).trans ((if_neg (fun q => c_24 ((zis_nt (show tr + 1 < lc by omega) hlc (((hM (tr + 1) (by omega)).mp c_13).2).symm).symm.trans q.symm))).trans ((if_neg (fun q => nI_m1 (show key < 2147483648 by omega) (q.trans (zis_pf htr hlc (fun q q2 => c_25 ((hM tr htr).mpr ⟨q, q2⟩)))))).trans (if_pos (by rw [hx9]; exact c_27))))).symm, by rw [ht]; exact hP, hD⟩, hS.F ht⟩) hS.2.2 dX5_kindOf_119
            · skip
              have h0 := ((hM tr htr).mp c_25).1
              refine lv_aload_n hx hb dX5_kindOf_81 rfl (lv_at hl 1 rfl) ?_
              refine va_get (ci := 5) (v := .ref (h 7)) (C := RX5) (T := TX5) (N := 20) hx hb hts hinX5 hown hK hP 0 rfl rfl 11 (by decide) (hts (.fieldLink RX5 29 "TypingTutorModel" "text" "[I") (List.mem_of_getElem? (i := 1) rfl)) (fun _ h9 => h9) rfl dX5_kindOf_82 ?_
              refine lv_aload_n hx hb dX5_kindOf_85 rfl (lv_at hl 1 rfl) ?_
              refine va_get (ci := 5) (v := .int (nI tr)) (C := RX5) (T := TX5) (N := 20) hx hb hts hinX5 hown hK hP 0 rfl rfl 13 (by decide) (hts (.fieldLink RX5 110 "TypingTutorModel" "at" "I") (List.mem_of_getElem? (i := 2) rfl)) (fun _ h9 => h9) rfl dX5_kindOf_86 ?_
              refine lv_iconst (v := 1) hx hb dX5_kindOf_89 (by decide) ?_
              refine lv_isub hx hb dX5_kindOf_90 ?_
              refine lv_topi (fun v_28 ev_28 => ?_)
              obtain rfl : v_28 = (nI (tr - 1)) := ev_28.trans (pk_sub (a := tr) (b := 1) (by omega))
              refine va_iald hx hb hK hP 7 0 rfl rfl (vp_in_nI (n := (tr - 1)) (N := 48) (by omega) (by omega)) dX5_kindOf_91 ?_
              rw [pk_cl (x := (nI (tr - 1))) (tr - 1) (rfl) (by omega)]
              refine lv_iload_n hx hb dX5_kindOf_92 rfl (lv_at hl 2 rfl) ?_
              refine lv_icmp_ne (tgt := 98) hx hb dX5_kindOf_93 (by decide) (fun c_29 => ?_) (fun c_29 => ?_)
              · skip
                refine lv_iload_n hx hb dX5_kindOf_98 rfl (lv_at hl 2 rfl) ?_
                refine lv_aload_n hx hb dX5_kindOf_99 rfl (lv_at hl 1 rfl) ?_
                refine va_get (ci := 5) (v := .ref (h 7)) (C := RX5) (T := TX5) (N := 20) hx hb hts hinX5 hown hK hP 0 rfl rfl 11 (by decide) (hts (.fieldLink RX5 29 "TypingTutorModel" "text" "[I") (List.mem_of_getElem? (i := 1) rfl)) (fun _ h9 => h9) rfl dX5_kindOf_100 ?_
                refine lv_aload_n hx hb dX5_kindOf_103 rfl (lv_at hl 1 rfl) ?_
                refine va_get (ci := 5) (v := .int (nI tr)) (C := RX5) (T := TX5) (N := 20) hx hb hts hinX5 hown hK hP 0 rfl rfl 13 (by decide) (hts (.fieldLink RX5 110 "TypingTutorModel" "at" "I") (List.mem_of_getElem? (i := 2) rfl)) (fun _ h9 => h9) rfl dX5_kindOf_104 ?_
                refine va_iald hx hb hK hP 7 0 rfl rfl (vp_in_nI (n := tr) (N := 48) (by omega) (by omega)) dX5_kindOf_107 ?_
                rw [pk_cl (x := (nI tr)) tr (rfl) (by omega)]
                refine lv_topi (fun v_30 ev_30 => ?_)
                obtain rfl : v_30 = (nI x) := ev_30.trans (hx9)
                refine zci (zrS (As := [.int (nI key), .int (nI x)]) (rest := []) ⟨hx, hb, hml, hown, hts⟩ (zS hP hD hK hE hB hS) (c_X5_nearTo (a := key) (b := x) (hk) (hx26)) (va_cwS 2 hts gX5_kindOf_X5_nearTo rfl rfl rfl hds_X5_nearTo ⟨Nat.le_of_ble_eq_true rfl, Nat.le_of_ble_eq_true rfl⟩) rfl rfl hl.1 rfl (lv_room (Nat.le_of_ble_eq_true rfl)) dX5_kindOf_108 ⟨Nat.le_of_ble_eq_true rfl, Nat.le_of_ble_eq_true rfl⟩) hS (fun H locs hP hD hS => ?_)
                have hP : va_P D vwCl (zWM cI cJ cZ h th (n, L) ((zcb kt pt), (zcb km pm), (zcb kl pl)) mc (run, wc, nu, lc, le, af, tr, ms, cl, tm) (co, yn, yh, pa) ++ R) _ := hP
                have hD : va_D (zAb B) (zWM cI cJ cZ h th (n, L) ((zcb kt pt), (zcb km pm), (zcb kl pl)) mc (run, wc, nu, lc, le, af, tr, ms, cl, tm) (co, yn, yh, pa) ++ R) := hD
                refine lv_if_eq (tgt := 118) hx hb dX5_kindOf_111 (by decide) (fun c_31 => ?_) (fun c_31 => ?_)
                · skip
                  have c_31 : (zst (nI key) (nI x)) = false := zb_0 c_31
                  refine lv_iconst (v := 4) hx hb dX5_kindOf_118 (by decide) ?_
                  exact W.iret (v := 4) hx hb hr (fun t ht hW => ⟨⟨_, (), rfl, ((if_neg c_1).trans ((if_neg (fun q => c_24 ((zis_nt (show tr + 1 < lc by omega) hlc (((hM (tr + 1) (by omega)).mp c_13).2).symm).symm.trans q.symm))).trans ((if_neg (fun q => c_29 ((zis_pt h0 htr hlc ((hM tr htr).mp c_25).2).symm.trans q.symm))).trans (if_neg (by rw [hx9, c_31]; decide))))).symm, by rw [ht]; exact hP, hD⟩, hS.F ht⟩) hS.2.2 dX5_kindOf_119
                · skip
                  have c_31 : (zst (nI key) (nI x)) = true := zb_n c_31
                  refine lv_iconst (v := 3) hx hb dX5_kindOf_114 (by decide) ?_
                  refine lv_goto (tgt := 119) hx hb dX5_kindOf_115 (by decide) ?_
                  exact W.iret (v := 3) hx hb hr (fun t ht hW => ⟨⟨_, (), rfl, ((if_neg c_1).trans ((if_neg (fun q => c_24 ((zis_nt (show tr + 1 < lc by omega) hlc (((hM (tr + 1) (by omega)).mp c_13).2).symm).symm.trans q.symm))).trans ((if_neg (fun q => c_29 ((zis_pt h0 htr hlc ((hM tr htr).mp c_25).2).symm.trans q.symm))).trans (if_pos (by rw [hx9]; exact c_31))))).symm, by rw [ht]; exact hP, hD⟩, hS.F ht⟩) hS.2.2 dX5_kindOf_119
              · skip
                refine lv_iconst (v := 2) hx hb dX5_kindOf_96 (by decide) ?_
                exact W.iret (v := 2) hx hb hr (fun t ht hW => ⟨⟨_, (), rfl, ((if_neg c_1).trans ((if_neg (fun q => c_24 ((zis_nt (show tr + 1 < lc by omega) hlc (((hM (tr + 1) (by omega)).mp c_13).2).symm).symm.trans q.symm))).trans (if_pos (c_29.symm.trans (zis_pt h0 htr hlc ((hM tr htr).mp c_25).2).symm)))).symm, by rw [ht]; exact hP, hD⟩, hS.F ht⟩) hS.2.2 dX5_kindOf_97
          · skip
            refine lv_iconst (v := 1) hx hb dX5_kindOf_67 (by decide) ?_
            exact W.iret (v := 1) hx hb hr (fun t ht hW => ⟨⟨_, (), rfl, ((if_neg c_1).trans (if_pos (c_24.symm.trans (zis_nt (show tr + 1 < lc by omega) hlc (((hM (tr + 1) (by omega)).mp c_13).2).symm).symm))).symm, by rw [ht]; exact hP, hD⟩, hS.F ht⟩) hS.2.2 dX5_kindOf_68
  · skip
    refine lv_iconst (v := 0) hx hb dX5_kindOf_13 (by decide) ?_
    exact W.iret (v := 0) hx hb hr (fun t ht hW => ⟨⟨_, (), rfl, (if_pos c_1).symm, by rw [ht]; exact hP, hD⟩, hS.F ht⟩) hS.2.2 dX5_kindOf_14

set_option maxHeartbeats 1000000 in
set_option maxRecDepth 100000 in
theorem c_X5_finish {l : Launch} {B kr kp : Nat} {D : va_G} {cI cJ cZ : ClassId} {h : Nat → Nat} {R : va_W} {th : Int32} {n : Nat} {L : Nat → Int64} {kt : Nat → Int32} {km : Nat → Int32} {kl : Nat → Int32} {pt : Nat → Int32} {pm : Nat → Int32} {pl : Nat → Int32} {nu : Nat → Int32} {le : Nat → Int32} {af : Nat → Int32} {run : Bool} {wc : Nat} {lc : Nat} {tr : Nat} {cl : Nat} {tm : Nat} {ms : Nat} {co : Nat} {yn : Nat} {yh : Nat → Int32} {pa : Int32} {mc : Nat → Int32}  {g : Bool}  (hg : zsel g (3 * co = yn) (3 * co + 3 ≤ yn)) (hco : co < 256) (hyn : yn ≤ 1530) (hy12 : 12 ≤ yn) (hlc : lc ≤ 48) (hcl : cl ≤ 48) : Met l yX5_finish wsX5_finish ({ frames := 1, cells := 1, slots := 1536, locals := 60 }) (zPc B kr kp D (zTy cI cJ cZ) (zWM cI cJ cZ h th (n, L) ((zcb kt pt), (zcb km pm), (zcb kl pl)) mc (run, wc, nu, lc, le, af, tr, ms, cl, tm) (co, yn, yh, pa) ++ R) [.ref (h 0)]) (zQvh B D (fun q9 => (zWM cI cJ cZ (zh9 h q9) th (n, L) ((zcb kt pt), (zcb km pm), (zcb kl pl)) mc (false, wc, nu, lc, le, af, tr, ms, cl, tm) ((co + 1), (zyn g yn), (zh3 (zyh g yh yn) co lc cl tm), (zpc pa lc cl)) ++ R))) 1 1536 (zAb B) := by
  cases g with
  | true =>
    refine Met.ofW (cc := cX5_finish) (maxL := 2) (ret := none) (by decide) rfl ?_
    intro p e s m args below meth c s₁ B0 hml hv
    obtain ⟨rfl, hP, hD, hK, hE, hB⟩ := hv
    have hx := B0.exec
    have hb := B0.bytes
    have hr := B0.returns
    have hts := atoms_spec (ws := wsX5_finish) B0.pre
    have hown : s.vm.findClass RX5 = some m.cls := findClass_of_methodNamed B0.named
    have hlocks := B0.notSynchronized
    have hA : ∀ q : Nat, s.heap.size ≤ q → zAb B q := fun q hq => Nat.le_trans hB hq
    have hS : va_S (zAb B) s.heap s.heap [] := va_S.rf
    have hgr : s.heap.size ≤ s.heap.size := Nat.le_refl _
    have hl := lv_entry ([.ref (h 0)]) (n := 2) (Nat.le_of_ble_eq_true rfl)
    rw [lg_entry_eq]
    generalize (lg_sl ([.ref (h 0)]) ++ List.replicate (2 - (lg_sl ([.ref (h 0)])).length) Slot.unset).toArray = ls at hl ⊢
    have hl : lv_has ls 2 [(0, .ref (h 0))] := hl
    have hinX5 : ∀ w ∈ wsX50, w ∈ wsX5_finish := fun _ h => List.mem_cons_of_mem _ (List.mem_append_right _ h)
    have hP : va_P D vwCl (zWM cI cJ cZ h th (n, L) ((zcb kt pt), (zcb km pm), (zcb kl pl)) mc (run, wc, nu, lc, le, af, tr, ms, cl, tm) (co, yn, yh, pa) ++ R) s.heap := hP
    have hD : va_D (zAb B) (zWM cI cJ cZ h th (n, L) ((zcb kt pt), (zcb km pm), (zcb kl pl)) mc (run, wc, nu, lc, le, af, tr, ms, cl, tm) (co, yn, yh, pa) ++ R) := hD
    have hg : 3 * co = yn := hg
    refine lv_aload_n hx hb dX5_finish_0 rfl (lv_at hl 0 rfl) ?_
    refine lv_iconst (v := 0) hx hb dX5_finish_1 (by decide) ?_
    refine va_put (ci := 5) (v := .int 0) (ty := .boolean) (C := RX5) (T := TX5) (N := 20) hx hb hts hinX5 tyX5 tyX5_ok nmX5 hown hK hP hD hS 0 rfl rfl 7 (by decide) (hts (.fieldLink RX5 106 "TypingTutorModel" "isOpen" "Z") (List.mem_of_getElem? (i := 1) rfl)) (fun _ h9 => h9) rfl (by decide +kernel) rfl rfl (Nat.le_of_ble_eq_true rfl) dX5_finish_2 (fun H locs hP hD hS => ?_)
    have hP : va_P D vwCl (zWM cI cJ cZ h th (n, L) ((zcb kt pt), (zcb km pm), (zcb kl pl)) mc (false, wc, nu, lc, le, af, tr, ms, cl, tm) (co, yn, yh, pa) ++ R) _ := hP
    have hD : va_D (zAb B) (zWM cI cJ cZ h th (n, L) ((zcb kt pt), (zcb km pm), (zcb kl pl)) mc (false, wc, nu, lc, le, af, tr, ms, cl, tm) (co, yn, yh, pa) ++ R) := hD
    refine lv_iconst (v := 3) hx hb dX5_finish_5 (by decide) ?_
    refine lv_aload_n hx hb dX5_finish_6 rfl (lv_at hl 0 rfl) ?_
    refine va_get (ci := 5) (v := .int (nI co)) (C := RX5) (T := TX5) (N := 20) hx hb hts hinX5 hown hK hP 0 rfl rfl 17 (by decide) (hts (.fieldLink RX5 145 "TypingTutorModel" "finished" "I") (List.mem_of_getElem? (i := 2) rfl)) (fun _ h9 => h9) rfl dX5_finish_7 ?_
    refine lv_imul hx hb dX5_finish_10 ?_
    refine lv_topi (fun v_1 ev_1 => ?_)
    obtain rfl : v_1 = (nI (3 * co)) := ev_1.trans (pk_mul 3 co)
    refine lv_aload_n hx hb dX5_finish_11 rfl (lv_at hl 0 rfl) ?_
    refine va_get (ci := 5) (v := .ref (h 9)) (C := RX5) (T := TX5) (N := 20) hx hb hts hinX5 hown hK hP 0 rfl rfl 18 (by decide) (hts (.fieldLink RX5 36 "TypingTutorModel" "history" "[I") (List.mem_of_getElem? (i := 3) rfl)) (fun _ h9 => h9) rfl dX5_finish_12 ?_
    refine va_alen hx hb hK hP 9 0 rfl rfl (v := (nI yn)) rfl dX5_finish_15 ?_
    refine lv_icmp_ne (tgt := 49) hx hb dX5_finish_16 (by decide) (fun c_2 => ?_) (fun c_2 => ?_)
    · skip
      have c_2 : ¬ (3 * co) = yn := fun hh => c_2 ((nI_eq (a := (3 * co)) (b := yn) (by omega) (by omega)).mpr hh)
      omega
    · skip
      have c_2 : (3 * co) = yn := (nI_eq (a := (3 * co)) (b := yn) (by omega) (by omega)).mp c_2
      refine lv_iconst (v := 2) hx hb dX5_finish_19 (by decide) ?_
      refine lv_aload_n hx hb dX5_finish_20 rfl (lv_at hl 0 rfl) ?_
      refine va_get (ci := 5) (v := .ref (h 9)) (C := RX5) (T := TX5) (N := 20) hx hb hts hinX5 hown hK hP 0 rfl rfl 18 (by decide) (hts (.fieldLink RX5 36 "TypingTutorModel" "history" "[I") (List.mem_of_getElem? (i := 3) rfl)) (fun _ h9 => h9) rfl dX5_finish_21 ?_
      refine va_alen hx hb hK hP 9 0 rfl rfl (v := (nI yn)) rfl dX5_finish_24 ?_
      refine lv_imul hx hb dX5_finish_25 ?_
      refine lv_topi (fun v_3 ev_3 => ?_)
      obtain rfl : v_3 = (nI (2 * yn)) := ev_3.trans (pk_mul 2 yn)
      refine va_newa (atype := .int) (ty := .int) (N' := 2 * yn) (a0 := (2 * yn, .inl (fun _ => 0))) hx hb (hts (.arrayClass .int) (List.mem_of_getElem? (i := 4) rfl)) rfl hK hP hD hS hA (fun _ => rfl) (nI_pos (by omega)) (nI_clamp (by omega)) (show 2 * yn * 4 ≤ 536870912 by omega) (Nat.le_of_ble_eq_true rfl) (show 0 + 2 * yn ≤ 1536 by omega) dX5_finish_26 (fun q9 cA H hK9 hP hD hS => ?_)
      obtain rfl : cI = cA := zcA_int hK hK9
      refine W.widen (k := 1) (n := 1536) (Nat.le_of_ble_eq_true rfl) (show 0 + 2 * yn ≤ 1536 by omega) ?_
      have hP : va_P D vwCl (((zWM cI cJ cZ h th (n, L) ((zcb kt pt), (zcb km pm), (zcb kl pl)) mc (false, wc, nu, lc, le, af, tr, ms, cl, tm) (co, yn, yh, pa)) ++ [(q9, .inl (cI, 2 * yn, .inl (fun _ => 0)))]) ++ R) H := hP.swap
      have hD : va_D (zAb B) (((zWM cI cJ cZ h th (n, L) ((zcb kt pt), (zcb km pm), (zcb kl pl)) mc (false, wc, nu, lc, le, af, tr, ms, cl, tm) (co, yn, yh, pa)) ++ [(q9, .inl (cI, 2 * yn, .inl (fun _ => 0)))]) ++ R) := hD.swap
      refine lv_astore_n (lv' := [(1, .ref q9), (0, .ref (h 0))]) hx hb dX5_finish_28 rfl hl (by decide) rfl (fun ls hl => ?_)
      refine lv_aload_n hx hb dX5_finish_29 rfl (lv_at hl 1 rfl) ?_
      refine va_get (ci := 5) (v := .ref (h 9)) (C := RX5) (T := TX5) (N := 20) hx hb hts hinX5 hown hK hP 0 rfl rfl 18 (by decide) (hts (.fieldLink RX5 36 "TypingTutorModel" "history" "[I") (List.mem_of_getElem? (i := 3) rfl)) (fun _ h9 => h9) rfl dX5_finish_30 ?_
      refine lv_iconst (v := 0) hx hb dX5_finish_33 (by decide) ?_
      refine lv_aload_n hx hb dX5_finish_34 rfl (lv_at hl 0 rfl) ?_
      refine lv_iconst (v := 0) hx hb dX5_finish_35 (by decide) ?_
      refine lv_aload_n hx hb dX5_finish_36 rfl (lv_at hl 1 rfl) ?_
      refine va_get (ci := 5) (v := .ref (h 9)) (C := RX5) (T := TX5) (N := 20) hx hb hts hinX5 hown hK hP 0 rfl rfl 18 (by decide) (hts (.fieldLink RX5 36 "TypingTutorModel" "history" "[I") (List.mem_of_getElem? (i := 3) rfl)) (fun _ h9 => h9) rfl dX5_finish_37 ?_
      refine va_alen hx hb hK hP 9 0 rfl rfl (v := (nI yn)) rfl dX5_finish_40 ?_
      refine va_copyi hx hb (hml.trans hl.1.symm) hown (hts (.methodLink RX5 148 arraycopyName) (List.mem_of_getElem? (i := 5) rfl)) (hts (.native arraycopyName) (List.mem_of_getElem? (i := 6) rfl)) (hts (.static arraycopyName) (List.mem_of_getElem? (i := 7) rfl)) (hts (.initialized "java/lang/System") (List.mem_of_getElem? (i := 8) rfl)) hK hP hD hS 9 10 0 0 rfl rfl rfl rfl rfl (sp := 0) (dp := 0) (n := nI yn) (by decide) (by decide) (nI_pos (by omega)) (by rw [nI_clamp (by omega)]; exact Nat.le_of_eq (Nat.zero_add _)) (by rw [nI_clamp (by omega)]; show 0 + yn ≤ 2 * yn; omega) (fun _ _ => rfl) (Nat.le_of_ble_eq_true rfl) (Nat.le_of_ble_eq_true rfl) dX5_finish_41 (fun H locs hP hD hS => ?_)
      rw [nI_clamp (by omega)] at hP hD
      have hP : va_P D vwCl (((zWM cI cJ cZ h th (n, L) ((zcb kt pt), (zcb km pm), (zcb kl pl)) mc (false, wc, nu, lc, le, af, tr, ms, cl, tm) (co, yn, yh, pa)) ++ [(q9, .inl (cI, 2 * yn, .inl (va_cpy yh (fun _ => 0) 0 0 yn)))]) ++ R) H := hP
      have hD : va_D (zAb B) (((zWM cI cJ cZ h th (n, L) ((zcb kt pt), (zcb km pm), (zcb kl pl)) mc (false, wc, nu, lc, le, af, tr, ms, cl, tm) (co, yn, yh, pa)) ++ [(q9, .inl (cI, 2 * yn, .inl (va_cpy yh (fun _ => 0) 0 0 yn)))]) ++ R) := hD
      refine lv_aload_n hx hb dX5_finish_44 rfl (lv_at hl 1 rfl) ?_
      refine lv_aload_n hx hb dX5_finish_45 rfl (lv_at hl 0 rfl) ?_
      refine va_put (ci := 5) (v := .ref q9) (ty := .array .int) (C := RX5) (T := TX5) (N := 20) hx hb hts hinX5 tyX5 tyX5_ok nmX5 hown hK hP hD hS 0 rfl rfl 18 (by decide) (hts (.fieldLink RX5 36 "TypingTutorModel" "history" "[I") (List.mem_of_getElem? (i := 3) rfl)) (fun _ h9 => h9) rfl (by decide +kernel) rfl rfl (Nat.le_of_ble_eq_true rfl) dX5_finish_46 (fun H locs hP hD hS => ?_)
      have hP : va_P D vwCl (zWM cI cJ cZ (zh9 h q9) th (n, L) ((zcb kt pt), (zcb km pm), (zcb kl pl)) mc (false, wc, nu, lc, le, af, tr, ms, cl, tm) (co, (2 * yn), (va_cpy yh (fun _ => 0) 0 0 yn), pa) ++ R) H := va_P.part (X := List.set (zWM cI cJ cZ (zh9 h q9) th (n, L) ((zcb kt pt), (zcb km pm), (zcb kl pl)) mc (false, wc, nu, lc, le, af, tr, ms, cl, tm) (co, (2 * yn), (va_cpy yh (fun _ => 0) 0 0 yn), pa)) 9 (h 9, .inl (cI, yn, .inl yh)) ++ [(q9, .inl (cI, 2 * yn, .inl (va_cpy yh (fun _ => 0) 0 0 yn)))]) hP [0, 1, 2, 3, 4, 5, 6, 7, 8, 10] rfl
      have hD : va_D (zAb B) (zWM cI cJ cZ (zh9 h q9) th (n, L) ((zcb kt pt), (zcb km pm), (zcb kl pl)) mc (false, wc, nu, lc, le, af, tr, ms, cl, tm) (co, (2 * yn), (va_cpy yh (fun _ => 0) 0 0 yn), pa) ++ R) := va_D.part (X := List.set (zWM cI cJ cZ (zh9 h q9) th (n, L) ((zcb kt pt), (zcb km pm), (zcb kl pl)) mc (false, wc, nu, lc, le, af, tr, ms, cl, tm) (co, (2 * yn), (va_cpy yh (fun _ => 0) 0 0 yn), pa)) 9 (h 9, .inl (cI, yn, .inl yh)) ++ [(q9, .inl (cI, 2 * yn, .inl (va_cpy yh (fun _ => 0) 0 0 yn)))]) hD [0, 1, 2, 3, 4, 5, 6, 7, 8, 10] (by decide) rfl
      refine lv_aload_n hx hb dX5_finish_49 rfl (lv_at hl 1 rfl) ?_
      refine va_get (ci := 5) (v := .ref q9) (C := RX5) (T := TX5) (N := 20) hx hb hts hinX5 hown hK hP 0 rfl rfl 18 (by decide) (hts (.fieldLink RX5 36 "TypingTutorModel" "history" "[I") (List.mem_of_getElem? (i := 3) rfl)) (fun _ h9 => h9) rfl dX5_finish_50 ?_
      refine lv_iconst (v := 3) hx hb dX5_finish_53 (by decide) ?_
      refine lv_aload_n hx hb dX5_finish_54 rfl (lv_at hl 1 rfl) ?_
      refine va_get (ci := 5) (v := .int (nI co)) (C := RX5) (T := TX5) (N := 20) hx hb hts hinX5 hown hK hP 0 rfl rfl 17 (by decide) (hts (.fieldLink RX5 145 "TypingTutorModel" "finished" "I") (List.mem_of_getElem? (i := 2) rfl)) (fun _ h9 => h9) rfl dX5_finish_55 ?_
      refine lv_imul hx hb dX5_finish_58 ?_
      refine lv_topi (fun v_4 ev_4 => ?_)
      obtain rfl : v_4 = (nI (3 * co)) := ev_4.trans (pk_mul 3 co)
      refine lv_aload_n hx hb dX5_finish_59 rfl (lv_at hl 1 rfl) ?_
      refine va_get (ci := 5) (v := .int (nI lc)) (C := RX5) (T := TX5) (N := 20) hx hb hts hinX5 hown hK hP 0 rfl rfl 10 (by decide) (hts (.fieldLink RX5 103 "TypingTutorModel" "letters" "I") (List.mem_of_getElem? (i := 9) rfl)) (fun _ h9 => h9) rfl dX5_finish_60 ?_
      refine va_iast hx hb hK hP hD hS 9 0 rfl rfl (vp_in_nI (n := (3 * co)) (N := (2 * yn)) (by omega) (by omega)) dX5_finish_63 (fun H locs hP hD hS => ?_)
      rw [pk_cl (x := (nI (3 * co))) (3 * co) (rfl) (by omega)] at hP hD
      have hP : va_P D vwCl (zWM cI cJ cZ (zh9 h q9) th (n, L) ((zcb kt pt), (zcb km pm), (zcb kl pl)) mc (false, wc, nu, lc, le, af, tr, ms, cl, tm) (co, (2 * yn), (upd (va_cpy yh (fun _ => 0) 0 0 yn) (3 * co) (nI lc)), pa) ++ R) _ := hP
      have hD : va_D (zAb B) (zWM cI cJ cZ (zh9 h q9) th (n, L) ((zcb kt pt), (zcb km pm), (zcb kl pl)) mc (false, wc, nu, lc, le, af, tr, ms, cl, tm) (co, (2 * yn), (upd (va_cpy yh (fun _ => 0) 0 0 yn) (3 * co) (nI lc)), pa) ++ R) := hD
      refine lv_aload_n hx hb dX5_finish_64 rfl (lv_at hl 1 rfl) ?_
      refine va_get (ci := 5) (v := .ref q9) (C := RX5) (T := TX5) (N := 20) hx hb hts hinX5 hown hK hP 0 rfl rfl 18 (by decide) (hts (.fieldLink RX5 36 "TypingTutorModel" "history" "[I") (List.mem_of_getElem? (i := 3) rfl)) (fun _ h9 => h9) rfl dX5_finish_65 ?_
      refine lv_iconst (v := 3) hx hb dX5_finish_68 (by decide) ?_
      refine lv_aload_n hx hb dX5_finish_69 rfl (lv_at hl 1 rfl) ?_
      refine va_get (ci := 5) (v := .int (nI co)) (C := RX5) (T := TX5) (N := 20) hx hb hts hinX5 hown hK hP 0 rfl rfl 17 (by decide) (hts (.fieldLink RX5 145 "TypingTutorModel" "finished" "I") (List.mem_of_getElem? (i := 2) rfl)) (fun _ h9 => h9) rfl dX5_finish_70 ?_
      refine lv_imul hx hb dX5_finish_73 ?_
      refine lv_topi (fun v_5 ev_5 => ?_)
      obtain rfl : v_5 = (nI (3 * co)) := ev_5.trans (pk_mul 3 co)
      refine lv_iconst (v := 1) hx hb dX5_finish_74 (by decide) ?_
      refine lv_iadd hx hb dX5_finish_75 ?_
      refine lv_topi (fun v_6 ev_6 => ?_)
      obtain rfl : v_6 = (nI ((3 * co) + 1)) := ev_6.trans (nI_add (3 * co) 1)
      refine lv_aload_n hx hb dX5_finish_76 rfl (lv_at hl 1 rfl) ?_
      refine va_get (ci := 5) (v := .int (nI cl)) (C := RX5) (T := TX5) (N := 20) hx hb hts hinX5 hown hK hP 0 rfl rfl 15 (by decide) (hts (.fieldLink RX5 116 "TypingTutorModel" "clean" "I") (List.mem_of_getElem? (i := 10) rfl)) (fun _ h9 => h9) rfl dX5_finish_77 ?_
      refine va_iast hx hb hK hP hD hS 9 0 rfl rfl (vp_in_nI (n := ((3 * co) + 1)) (N := (2 * yn)) (by omega) (by omega)) dX5_finish_80 (fun H locs hP hD hS => ?_)
      rw [pk_cl (x := (nI ((3 * co) + 1))) ((3 * co) + 1) (rfl) (by omega)] at hP hD
      have hP : va_P D vwCl (zWM cI cJ cZ (zh9 h q9) th (n, L) ((zcb kt pt), (zcb km pm), (zcb kl pl)) mc (false, wc, nu, lc, le, af, tr, ms, cl, tm) (co, (2 * yn), (upd (upd (va_cpy yh (fun _ => 0) 0 0 yn) (3 * co) (nI lc)) ((3 * co) + 1) (nI cl)), pa) ++ R) _ := hP
      have hD : va_D (zAb B) (zWM cI cJ cZ (zh9 h q9) th (n, L) ((zcb kt pt), (zcb km pm), (zcb kl pl)) mc (false, wc, nu, lc, le, af, tr, ms, cl, tm) (co, (2 * yn), (upd (upd (va_cpy yh (fun _ => 0) 0 0 yn) (3 * co) (nI lc)) ((3 * co) + 1) (nI cl)), pa) ++ R) := hD
      refine lv_aload_n hx hb dX5_finish_81 rfl (lv_at hl 1 rfl) ?_
      refine va_get (ci := 5) (v := .ref q9) (C := RX5) (T := TX5) (N := 20) hx hb hts hinX5 hown hK hP 0 rfl rfl 18 (by decide) (hts (.fieldLink RX5 36 "TypingTutorModel" "history" "[I") (List.mem_of_getElem? (i := 3) rfl)) (fun _ h9 => h9) rfl dX5_finish_82 ?_
      refine lv_iconst (v := 3) hx hb dX5_finish_85 (by decide) ?_
      refine lv_aload_n hx hb dX5_finish_86 rfl (lv_at hl 1 rfl) ?_
      refine va_get (ci := 5) (v := .int (nI co)) (C := RX5) (T := TX5) (N := 20) hx hb hts hinX5 hown hK hP 0 rfl rfl 17 (by decide) (hts (.fieldLink RX5 145 "TypingTutorModel" "finished" "I") (List.mem_of_getElem? (i := 2) rfl)) (fun _ h9 => h9) rfl dX5_finish_87 ?_
      refine lv_imul hx hb dX5_finish_90 ?_
      refine lv_topi (fun v_7 ev_7 => ?_)
      obtain rfl : v_7 = (nI (3 * co)) := ev_7.trans (pk_mul 3 co)
      refine lv_iconst (v := 2) hx hb dX5_finish_91 (by decide) ?_
      refine lv_iadd hx hb dX5_finish_92 ?_
      refine lv_topi (fun v_8 ev_8 => ?_)
      obtain rfl : v_8 = (nI ((3 * co) + 2)) := ev_8.trans (nI_add (3 * co) 2)
      refine lv_aload_n hx hb dX5_finish_93 rfl (lv_at hl 1 rfl) ?_
      refine va_get (ci := 5) (v := .int (nI tm)) (C := RX5) (T := TX5) (N := 20) hx hb hts hinX5 hown hK hP 0 rfl rfl 16 (by decide) (hts (.fieldLink RX5 119 "TypingTutorModel" "time" "I") (List.mem_of_getElem? (i := 11) rfl)) (fun _ h9 => h9) rfl dX5_finish_94 ?_
      refine va_iast hx hb hK hP hD hS 9 0 rfl rfl (vp_in_nI (n := ((3 * co) + 2)) (N := (2 * yn)) (by omega) (by omega)) dX5_finish_97 (fun H locs hP hD hS => ?_)
      rw [pk_cl (x := (nI ((3 * co) + 2))) ((3 * co) + 2) (rfl) (by omega)] at hP hD
      have hP : va_P D vwCl (zWM cI cJ cZ (zh9 h q9) th (n, L) ((zcb kt pt), (zcb km pm), (zcb kl pl)) mc (false, wc, nu, lc, le, af, tr, ms, cl, tm) (co, (2 * yn), (upd (upd (upd (va_cpy yh (fun _ => 0) 0 0 yn) (3 * co) (nI lc)) ((3 * co) + 1) (nI cl)) ((3 * co) + 2) (nI tm)), pa) ++ R) _ := hP
      have hD : va_D (zAb B) (zWM cI cJ cZ (zh9 h q9) th (n, L) ((zcb kt pt), (zcb km pm), (zcb kl pl)) mc (false, wc, nu, lc, le, af, tr, ms, cl, tm) (co, (2 * yn), (upd (upd (upd (va_cpy yh (fun _ => 0) 0 0 yn) (3 * co) (nI lc)) ((3 * co) + 1) (nI cl)) ((3 * co) + 2) (nI tm)), pa) ++ R) := hD
      refine lv_aload_n hx hb dX5_finish_98 rfl (lv_at hl 1 rfl) ?_
      refine lv_dup hx hb dX5_finish_99 rfl ?_
      refine va_get (ci := 5) (v := .int (nI co)) (C := RX5) (T := TX5) (N := 20) hx hb hts hinX5 hown hK hP 0 rfl rfl 17 (by decide) (hts (.fieldLink RX5 145 "TypingTutorModel" "finished" "I") (List.mem_of_getElem? (i := 2) rfl)) (fun _ h9 => h9) rfl dX5_finish_100 ?_
      refine lv_iconst (v := 1) hx hb dX5_finish_103 (by decide) ?_
      refine lv_iadd hx hb dX5_finish_104 ?_
      refine lv_topi (fun v_9 ev_9 => ?_)
      obtain rfl : v_9 = (nI (co + 1)) := ev_9.trans (nI_add co 1)
      refine va_put (ci := 5) (v := .int (nI (co + 1))) (ty := .int) (C := RX5) (T := TX5) (N := 20) hx hb hts hinX5 tyX5 tyX5_ok nmX5 hown hK hP hD hS 0 rfl rfl 17 (by decide) (hts (.fieldLink RX5 145 "TypingTutorModel" "finished" "I") (List.mem_of_getElem? (i := 2) rfl)) (fun _ h9 => h9) rfl (by decide +kernel) rfl rfl (Nat.le_of_ble_eq_true rfl) dX5_finish_105 (fun H locs hP hD hS => ?_)
      have hP : va_P D vwCl (zWM cI cJ cZ (zh9 h q9) th (n, L) ((zcb kt pt), (zcb km pm), (zcb kl pl)) mc (false, wc, nu, lc, le, af, tr, ms, cl, tm) ((co + 1), (2 * yn), (upd (upd (upd (va_cpy yh (fun _ => 0) 0 0 yn) (3 * co) (nI lc)) ((3 * co) + 1) (nI cl)) ((3 * co) + 2) (nI tm)), pa) ++ R) _ := hP
      have hD : va_D (zAb B) (zWM cI cJ cZ (zh9 h q9) th (n, L) ((zcb kt pt), (zcb km pm), (zcb kl pl)) mc (false, wc, nu, lc, le, af, tr, ms, cl, tm) ((co + 1), (2 * yn), (upd (upd (upd (va_cpy yh (fun _ => 0) 0 0 yn) (3 * co) (nI lc)) ((3 * co) + 1) (nI cl)) ((3 * co) + 2) (nI tm)), pa) ++ R) := hD
      refine lv_bipush (v := 100) hx hb dX5_finish_108 (by decide) ?_
      refine lv_aload_n hx hb dX5_finish_110 rfl (lv_at hl 1 rfl) ?_
      refine va_get (ci := 5) (v := .int (nI cl)) (C := RX5) (T := TX5) (N := 20) hx hb hts hinX5 hown hK hP 0 rfl rfl 15 (by decide) (hts (.fieldLink RX5 116 "TypingTutorModel" "clean" "I") (List.mem_of_getElem? (i := 10) rfl)) (fun _ h9 => h9) rfl dX5_finish_111 ?_
      refine lv_imul hx hb dX5_finish_114 ?_
      refine lv_topi (fun v_10 ev_10 => ?_)
      obtain rfl : v_10 = (nI (100 * cl)) := ev_10.trans (pk_mul 100 cl)
      refine lv_bipush (v := 95) hx hb dX5_finish_115 (by decide) ?_
      refine lv_aload_n hx hb dX5_finish_117 rfl (lv_at hl 1 rfl) ?_
      refine va_get (ci := 5) (v := .int (nI lc)) (C := RX5) (T := TX5) (N := 20) hx hb hts hinX5 hown hK hP 0 rfl rfl 10 (by decide) (hts (.fieldLink RX5 103 "TypingTutorModel" "letters" "I") (List.mem_of_getElem? (i := 9) rfl)) (fun _ h9 => h9) rfl dX5_finish_118 ?_
      refine lv_imul hx hb dX5_finish_121 ?_
      refine lv_topi (fun v_11 ev_11 => ?_)
      obtain rfl : v_11 = (nI (95 * lc)) := ev_11.trans (pk_mul 95 lc)
      refine lv_icmp_lt (tgt := 146) hx hb dX5_finish_122 (by decide) (fun c_12 => ?_) (fun c_12 => ?_)
      · skip
        have c_12 : (100 * cl) < (95 * lc) := (nI_ltI (a := (100 * cl)) (b := (95 * lc)) (by omega) (by omega)).mp c_12
        refine lv_bipush (v := 100) hx hb dX5_finish_146 (by decide) ?_
        refine lv_aload_n hx hb dX5_finish_148 rfl (lv_at hl 1 rfl) ?_
        refine va_get (ci := 5) (v := .int (nI cl)) (C := RX5) (T := TX5) (N := 20) hx hb hts hinX5 hown hK hP 0 rfl rfl 15 (by decide) (hts (.fieldLink RX5 116 "TypingTutorModel" "clean" "I") (List.mem_of_getElem? (i := 10) rfl)) (fun _ h9 => h9) rfl dX5_finish_149 ?_
        refine lv_imul hx hb dX5_finish_152 ?_
        refine lv_topi (fun v_13 ev_13 => ?_)
        obtain rfl : v_13 = (nI (100 * cl)) := ev_13.trans (pk_mul 100 cl)
        refine lv_bipush (v := 85) hx hb dX5_finish_153 (by decide) ?_
        refine lv_aload_n hx hb dX5_finish_155 rfl (lv_at hl 1 rfl) ?_
        refine va_get (ci := 5) (v := .int (nI lc)) (C := RX5) (T := TX5) (N := 20) hx hb hts hinX5 hown hK hP 0 rfl rfl 10 (by decide) (hts (.fieldLink RX5 103 "TypingTutorModel" "letters" "I") (List.mem_of_getElem? (i := 9) rfl)) (fun _ h9 => h9) rfl dX5_finish_156 ?_
        refine lv_imul hx hb dX5_finish_159 ?_
        refine lv_topi (fun v_14 ev_14 => ?_)
        obtain rfl : v_14 = (nI (85 * lc)) := ev_14.trans (pk_mul 85 lc)
        refine lv_icmp_ge (tgt := 179) hx hb dX5_finish_160 (by decide) (fun c_15 => ?_) (fun c_15 => ?_)
        · skip
          have c_15 : (85 * lc) ≤ (100 * cl) := (nI_leI (a := (85 * lc)) (b := (100 * cl)) (by omega) (by omega)).mp c_15
          refine lv_aload_n hx hb dX5_finish_179 rfl (lv_at hl 1 rfl) ?_
          refine lv_bipush (v := 20) hx hb dX5_finish_180 (by decide) ?_
          refine lv_sipush (v := 900) hx hb dX5_finish_182 (by decide) ?_
          refine lv_aload_n hx hb dX5_finish_185 rfl (lv_at hl 1 rfl) ?_
          refine va_get (ci := 5) (v := .int pa) (C := RX5) (T := TX5) (N := 20) hx hb hts hinX5 hown hK hP 0 rfl rfl 19 (by decide) (hts (.fieldLink RX5 39 "TypingTutorModel" "pace" "I") (List.mem_of_getElem? (i := 12) rfl)) (fun _ h9 => h9) rfl dX5_finish_186 ?_
          refine va_mmin hx hb (hml.trans hl.1.symm) hown (hts (.methodLink RX5 154 Lib.Math.min.name) (List.mem_of_getElem? (i := 13) rfl)) (hts (.static Lib.Math.min.name) (List.mem_of_getElem? (i := 14) rfl)) (hts (.initialized "java/lang/Math") (List.mem_of_getElem? (i := 15) rfl)) (hts (.code Lib.Math.min.name Lib.Math.min.code 2 (some .int)) (List.mem_of_getElem? (i := 16) rfl)) (Nat.le_of_ble_eq_true rfl) (Nat.le_of_ble_eq_true rfl) (Nat.le_of_ble_eq_true rfl) (Nat.le_of_ble_eq_true rfl) dX5_finish_189 ?_
          refine va_mmax hx hb (hml.trans hl.1.symm) hown (hts (.methodLink RX5 135 Lib.Math.max.name) (List.mem_of_getElem? (i := 17) rfl)) (hts (.static Lib.Math.max.name) (List.mem_of_getElem? (i := 18) rfl)) (hts (.initialized "java/lang/Math") (List.mem_of_getElem? (i := 15) rfl)) (hts (.code Lib.Math.max.name Lib.Math.max.code 2 (some .int)) (List.mem_of_getElem? (i := 19) rfl)) (Nat.le_of_ble_eq_true rfl) (Nat.le_of_ble_eq_true rfl) (Nat.le_of_ble_eq_true rfl) (Nat.le_of_ble_eq_true rfl) dX5_finish_192 ?_
          refine va_put (ci := 5) (v := .int (if 20 < (if pa < 900 then pa else 900) then (if pa < 900 then pa else 900) else 20)) (ty := .int) (C := RX5) (T := TX5) (N := 20) hx hb hts hinX5 tyX5 tyX5_ok nmX5 hown hK hP hD hS 0 rfl rfl 19 (by decide) (hts (.fieldLink RX5 39 "TypingTutorModel" "pace" "I") (List.mem_of_getElem? (i := 12) rfl)) (fun _ h9 => h9) rfl (by decide +kernel) rfl rfl (Nat.le_of_ble_eq_true rfl) dX5_finish_195 (fun H locs hP hD hS => ?_)
          have hP : va_P D vwCl (zWM cI cJ cZ (zh9 h q9) th (n, L) ((zcb kt pt), (zcb km pm), (zcb kl pl)) mc (false, wc, nu, lc, le, af, tr, ms, cl, tm) ((co + 1), (2 * yn), (upd (upd (upd (va_cpy yh (fun _ => 0) 0 0 yn) (3 * co) (nI lc)) ((3 * co) + 1) (nI cl)) ((3 * co) + 2) (nI tm)), (if 20 < (if pa < 900 then pa else 900) then (if pa < 900 then pa else 900) else 20)) ++ R) _ := hP
          have hD : va_D (zAb B) (zWM cI cJ cZ (zh9 h q9) th (n, L) ((zcb kt pt), (zcb km pm), (zcb kl pl)) mc (false, wc, nu, lc, le, af, tr, ms, cl, tm) ((co + 1), (2 * yn), (upd (upd (upd (va_cpy yh (fun _ => 0) 0 0 yn) (3 * co) (nI lc)) ((3 * co) + 1) (nI cl)) ((3 * co) + 2) (nI tm)), (if 20 < (if pa < 900 then pa else 900) then (if pa < 900 then pa else 900) else 20)) ++ R) := hD
          have e9 : zpc pa lc cl = (if 20 < (if pa < 900 then pa else 900) then (if pa < 900 then pa else 900) else 20) := by rw [zpc, if_neg (by omega), if_neg (by omega)]; exact (zmm_eq _).symm
          have hP : va_P D vwCl (zWM cI cJ cZ (zh9 h q9) th (n, L) ((zcb kt pt), (zcb km pm), (zcb kl pl)) mc (false, wc, nu, lc, le, af, tr, ms, cl, tm) ((co + 1), (2 * yn), (upd (upd (upd (va_cpy yh (fun _ => 0) 0 0 yn) (3 * co) (nI lc)) ((3 * co) + 1) (nI cl)) ((3 * co) + 2) (nI tm)), (zpc pa lc cl)) ++ R) H := by rw [e9]; exact hP
          have hD : va_D (zAb B) (zWM cI cJ cZ (zh9 h q9) th (n, L) ((zcb kt pt), (zcb km pm), (zcb kl pl)) mc (false, wc, nu, lc, le, af, tr, ms, cl, tm) ((co + 1), (2 * yn), (upd (upd (upd (va_cpy yh (fun _ => 0) 0 0 yn) (3 * co) (nI lc)) ((3 * co) + 1) (nI cl)) ((3 * co) + 2) (nI tm)), (zpc pa lc cl)) ++ R) := by rw [e9]; exact hD
          exact W.vret hx hb hr (fun t ht hW => ⟨⟨q9, rfl, trivial, by rw [ht]; exact hP, hD⟩, hS.F ht⟩) hS.2.2 dX5_finish_198
        · skip
          have c_15 : ¬ (85 * lc) ≤ (100 * cl) := fun hh => c_15 ((nI_leI (a := (85 * lc)) (b := (100 * cl)) (by omega) (by omega)).mpr hh)
          refine lv_aload_n hx hb dX5_finish_163 rfl (lv_at hl 1 rfl) ?_
          refine lv_dup hx hb dX5_finish_164 rfl ?_
          refine va_get (ci := 5) (v := .int pa) (C := RX5) (T := TX5) (N := 20) hx hb hts hinX5 hown hK hP 0 rfl rfl 19 (by decide) (hts (.fieldLink RX5 39 "TypingTutorModel" "pace" "I") (List.mem_of_getElem? (i := 12) rfl)) (fun _ h9 => h9) rfl dX5_finish_165 ?_
          refine lv_aload_n hx hb dX5_finish_168 rfl (lv_at hl 1 rfl) ?_
          refine va_get (ci := 5) (v := .int pa) (C := RX5) (T := TX5) (N := 20) hx hb hts hinX5 hown hK hP 0 rfl rfl 19 (by decide) (hts (.fieldLink RX5 39 "TypingTutorModel" "pace" "I") (List.mem_of_getElem? (i := 12) rfl)) (fun _ h9 => h9) rfl dX5_finish_169 ?_
          refine lv_bipush (v := 10) hx hb dX5_finish_172 (by decide) ?_
          refine lv_idiv hx hb dX5_finish_174 (by decide) ?_
          refine lv_isub hx hb dX5_finish_175 ?_
          refine va_put (ci := 5) (v := .int (pa - (pa / 10))) (ty := .int) (C := RX5) (T := TX5) (N := 20) hx hb hts hinX5 tyX5 tyX5_ok nmX5 hown hK hP hD hS 0 rfl rfl 19 (by decide) (hts (.fieldLink RX5 39 "TypingTutorModel" "pace" "I") (List.mem_of_getElem? (i := 12) rfl)) (fun _ h9 => h9) rfl (by decide +kernel) rfl rfl (Nat.le_of_ble_eq_true rfl) dX5_finish_176 (fun H locs hP hD hS => ?_)
          have hP : va_P D vwCl (zWM cI cJ cZ (zh9 h q9) th (n, L) ((zcb kt pt), (zcb km pm), (zcb kl pl)) mc (false, wc, nu, lc, le, af, tr, ms, cl, tm) ((co + 1), (2 * yn), (upd (upd (upd (va_cpy yh (fun _ => 0) 0 0 yn) (3 * co) (nI lc)) ((3 * co) + 1) (nI cl)) ((3 * co) + 2) (nI tm)), (pa - (pa / 10))) ++ R) _ := hP
          have hD : va_D (zAb B) (zWM cI cJ cZ (zh9 h q9) th (n, L) ((zcb kt pt), (zcb km pm), (zcb kl pl)) mc (false, wc, nu, lc, le, af, tr, ms, cl, tm) ((co + 1), (2 * yn), (upd (upd (upd (va_cpy yh (fun _ => 0) 0 0 yn) (3 * co) (nI lc)) ((3 * co) + 1) (nI cl)) ((3 * co) + 2) (nI tm)), (pa - (pa / 10))) ++ R) := hD
          refine lv_aload_n hx hb dX5_finish_179 rfl (lv_at hl 1 rfl) ?_
          refine lv_bipush (v := 20) hx hb dX5_finish_180 (by decide) ?_
          refine lv_sipush (v := 900) hx hb dX5_finish_182 (by decide) ?_
          refine lv_aload_n hx hb dX5_finish_185 rfl (lv_at hl 1 rfl) ?_
          refine va_get (ci := 5) (v := .int (pa - (pa / 10))) (C := RX5) (T := TX5) (N := 20) hx hb hts hinX5 hown hK hP 0 rfl rfl 19 (by decide) (hts (.fieldLink RX5 39 "TypingTutorModel" "pace" "I") (List.mem_of_getElem? (i := 12) rfl)) (fun _ h9 => h9) rfl dX5_finish_186 ?_
          refine va_mmin hx hb (hml.trans hl.1.symm) hown (hts (.methodLink RX5 154 Lib.Math.min.name) (List.mem_of_getElem? (i := 13) rfl)) (hts (.static Lib.Math.min.name) (List.mem_of_getElem? (i := 14) rfl)) (hts (.initialized "java/lang/Math") (List.mem_of_getElem? (i := 15) rfl)) (hts (.code Lib.Math.min.name Lib.Math.min.code 2 (some .int)) (List.mem_of_getElem? (i := 16) rfl)) (Nat.le_of_ble_eq_true rfl) (Nat.le_of_ble_eq_true rfl) (Nat.le_of_ble_eq_true rfl) (Nat.le_of_ble_eq_true rfl) dX5_finish_189 ?_
          refine va_mmax hx hb (hml.trans hl.1.symm) hown (hts (.methodLink RX5 135 Lib.Math.max.name) (List.mem_of_getElem? (i := 17) rfl)) (hts (.static Lib.Math.max.name) (List.mem_of_getElem? (i := 18) rfl)) (hts (.initialized "java/lang/Math") (List.mem_of_getElem? (i := 15) rfl)) (hts (.code Lib.Math.max.name Lib.Math.max.code 2 (some .int)) (List.mem_of_getElem? (i := 19) rfl)) (Nat.le_of_ble_eq_true rfl) (Nat.le_of_ble_eq_true rfl) (Nat.le_of_ble_eq_true rfl) (Nat.le_of_ble_eq_true rfl) dX5_finish_192 ?_
          refine va_put (ci := 5) (v := .int (if 20 < (if (pa - (pa / 10)) < 900 then (pa - (pa / 10)) else 900) then (if (pa - (pa / 10)) < 900 then (pa - (pa / 10)) else 900) else 20)) (ty := .int) (C := RX5) (T := TX5) (N := 20) hx hb hts hinX5 tyX5 tyX5_ok nmX5 hown hK hP hD hS 0 rfl rfl 19 (by decide) (hts (.fieldLink RX5 39 "TypingTutorModel" "pace" "I") (List.mem_of_getElem? (i := 12) rfl)) (fun _ h9 => h9) rfl (by decide +kernel) rfl rfl (Nat.le_of_ble_eq_true rfl) dX5_finish_195 (fun H locs hP hD hS => ?_)
          have hP : va_P D vwCl (zWM cI cJ cZ (zh9 h q9) th (n, L) ((zcb kt pt), (zcb km pm), (zcb kl pl)) mc (false, wc, nu, lc, le, af, tr, ms, cl, tm) ((co + 1), (2 * yn), (upd (upd (upd (va_cpy yh (fun _ => 0) 0 0 yn) (3 * co) (nI lc)) ((3 * co) + 1) (nI cl)) ((3 * co) + 2) (nI tm)), (if 20 < (if (pa - (pa / 10)) < 900 then (pa - (pa / 10)) else 900) then (if (pa - (pa / 10)) < 900 then (pa - (pa / 10)) else 900) else 20)) ++ R) _ := hP
          have hD : va_D (zAb B) (zWM cI cJ cZ (zh9 h q9) th (n, L) ((zcb kt pt), (zcb km pm), (zcb kl pl)) mc (false, wc, nu, lc, le, af, tr, ms, cl, tm) ((co + 1), (2 * yn), (upd (upd (upd (va_cpy yh (fun _ => 0) 0 0 yn) (3 * co) (nI lc)) ((3 * co) + 1) (nI cl)) ((3 * co) + 2) (nI tm)), (if 20 < (if (pa - (pa / 10)) < 900 then (pa - (pa / 10)) else 900) then (if (pa - (pa / 10)) < 900 then (pa - (pa / 10)) else 900) else 20)) ++ R) := hD
          have e9 : zpc pa lc cl = (if 20 < (if (pa - (pa / 10)) < 900 then (pa - (pa / 10)) else 900) then (if (pa - (pa / 10)) < 900 then (pa - (pa / 10)) else 900) else 20) := by rw [zpc, if_neg (by omega), if_pos (by omega)]; exact (zmm_eq _).symm
          have hP : va_P D vwCl (zWM cI cJ cZ (zh9 h q9) th (n, L) ((zcb kt pt), (zcb km pm), (zcb kl pl)) mc (false, wc, nu, lc, le, af, tr, ms, cl, tm) ((co + 1), (2 * yn), (upd (upd (upd (va_cpy yh (fun _ => 0) 0 0 yn) (3 * co) (nI lc)) ((3 * co) + 1) (nI cl)) ((3 * co) + 2) (nI tm)), (zpc pa lc cl)) ++ R) H := by rw [e9]; exact hP
          have hD : va_D (zAb B) (zWM cI cJ cZ (zh9 h q9) th (n, L) ((zcb kt pt), (zcb km pm), (zcb kl pl)) mc (false, wc, nu, lc, le, af, tr, ms, cl, tm) ((co + 1), (2 * yn), (upd (upd (upd (va_cpy yh (fun _ => 0) 0 0 yn) (3 * co) (nI lc)) ((3 * co) + 1) (nI cl)) ((3 * co) + 2) (nI tm)), (zpc pa lc cl)) ++ R) := by rw [e9]; exact hD
          exact W.vret hx hb hr (fun t ht hW => ⟨⟨q9, rfl, trivial, by rw [ht]; exact hP, hD⟩, hS.F ht⟩) hS.2.2 dX5_finish_198
      · skip
        have c_12 : ¬ (100 * cl) < (95 * lc) := fun hh => c_12 ((nI_ltI (a := (100 * cl)) (b := (95 * lc)) (by omega) (by omega)).mpr hh)
        refine lv_aload_n hx hb dX5_finish_125 rfl (lv_at hl 1 rfl) ?_
        refine lv_dup hx hb dX5_finish_126 rfl ?_
        refine va_get (ci := 5) (v := .int pa) (C := RX5) (T := TX5) (N := 20) hx hb hts hinX5 hown hK hP 0 rfl rfl 19 (by decide) (hts (.fieldLink RX5 39 "TypingTutorModel" "pace" "I") (List.mem_of_getElem? (i := 12) rfl)) (fun _ h9 => h9) rfl dX5_finish_127 ?_
        refine lv_aload_n hx hb dX5_finish_130 rfl (lv_at hl 1 rfl) ?_
        refine va_get (ci := 5) (v := .int pa) (C := RX5) (T := TX5) (N := 20) hx hb hts hinX5 hown hK hP 0 rfl rfl 19 (by decide) (hts (.fieldLink RX5 39 "TypingTutorModel" "pace" "I") (List.mem_of_getElem? (i := 12) rfl)) (fun _ h9 => h9) rfl dX5_finish_131 ?_
        refine lv_bipush (v := 20) hx hb dX5_finish_134 (by decide) ?_
        refine lv_idiv hx hb dX5_finish_136 (by decide) ?_
        refine lv_iconst (v := 1) hx hb dX5_finish_137 (by decide) ?_
        refine lv_iadd hx hb dX5_finish_138 ?_
        refine lv_iadd hx hb dX5_finish_139 ?_
        refine va_put (ci := 5) (v := .int (pa + ((pa / 20) + 1))) (ty := .int) (C := RX5) (T := TX5) (N := 20) hx hb hts hinX5 tyX5 tyX5_ok nmX5 hown hK hP hD hS 0 rfl rfl 19 (by decide) (hts (.fieldLink RX5 39 "TypingTutorModel" "pace" "I") (List.mem_of_getElem? (i := 12) rfl)) (fun _ h9 => h9) rfl (by decide +kernel) rfl rfl (Nat.le_of_ble_eq_true rfl) dX5_finish_140 (fun H locs hP hD hS => ?_)
        have hP : va_P D vwCl (zWM cI cJ cZ (zh9 h q9) th (n, L) ((zcb kt pt), (zcb km pm), (zcb kl pl)) mc (false, wc, nu, lc, le, af, tr, ms, cl, tm) ((co + 1), (2 * yn), (upd (upd (upd (va_cpy yh (fun _ => 0) 0 0 yn) (3 * co) (nI lc)) ((3 * co) + 1) (nI cl)) ((3 * co) + 2) (nI tm)), (pa + ((pa / 20) + 1))) ++ R) _ := hP
        have hD : va_D (zAb B) (zWM cI cJ cZ (zh9 h q9) th (n, L) ((zcb kt pt), (zcb km pm), (zcb kl pl)) mc (false, wc, nu, lc, le, af, tr, ms, cl, tm) ((co + 1), (2 * yn), (upd (upd (upd (va_cpy yh (fun _ => 0) 0 0 yn) (3 * co) (nI lc)) ((3 * co) + 1) (nI cl)) ((3 * co) + 2) (nI tm)), (pa + ((pa / 20) + 1))) ++ R) := hD
        refine lv_goto (tgt := 179) hx hb dX5_finish_143 (by decide) ?_
        refine lv_aload_n hx hb dX5_finish_179 rfl (lv_at hl 1 rfl) ?_
        refine lv_bipush (v := 20) hx hb dX5_finish_180 (by decide) ?_
        refine lv_sipush (v := 900) hx hb dX5_finish_182 (by decide) ?_
        refine lv_aload_n hx hb dX5_finish_185 rfl (lv_at hl 1 rfl) ?_
        refine va_get (ci := 5) (v := .int (pa + ((pa / 20) + 1))) (C := RX5) (T := TX5) (N := 20) hx hb hts hinX5 hown hK hP 0 rfl rfl 19 (by decide) (hts (.fieldLink RX5 39 "TypingTutorModel" "pace" "I") (List.mem_of_getElem? (i := 12) rfl)) (fun _ h9 => h9) rfl dX5_finish_186 ?_
        refine va_mmin hx hb (hml.trans hl.1.symm) hown (hts (.methodLink RX5 154 Lib.Math.min.name) (List.mem_of_getElem? (i := 13) rfl)) (hts (.static Lib.Math.min.name) (List.mem_of_getElem? (i := 14) rfl)) (hts (.initialized "java/lang/Math") (List.mem_of_getElem? (i := 15) rfl)) (hts (.code Lib.Math.min.name Lib.Math.min.code 2 (some .int)) (List.mem_of_getElem? (i := 16) rfl)) (Nat.le_of_ble_eq_true rfl) (Nat.le_of_ble_eq_true rfl) (Nat.le_of_ble_eq_true rfl) (Nat.le_of_ble_eq_true rfl) dX5_finish_189 ?_
        refine va_mmax hx hb (hml.trans hl.1.symm) hown (hts (.methodLink RX5 135 Lib.Math.max.name) (List.mem_of_getElem? (i := 17) rfl)) (hts (.static Lib.Math.max.name) (List.mem_of_getElem? (i := 18) rfl)) (hts (.initialized "java/lang/Math") (List.mem_of_getElem? (i := 15) rfl)) (hts (.code Lib.Math.max.name Lib.Math.max.code 2 (some .int)) (List.mem_of_getElem? (i := 19) rfl)) (Nat.le_of_ble_eq_true rfl) (Nat.le_of_ble_eq_true rfl) (Nat.le_of_ble_eq_true rfl) (Nat.le_of_ble_eq_true rfl) dX5_finish_192 ?_
        refine va_put (ci := 5) (v := .int (if 20 < (if (pa + ((pa / 20) + 1)) < 900 then (pa + ((pa / 20) + 1)) else 900) then (if (pa + ((pa / 20) + 1)) < 900 then (pa + ((pa / 20) + 1)) else 900) else 20)) (ty := .int) (C := RX5) (T := TX5) (N := 20) hx hb hts hinX5 tyX5 tyX5_ok nmX5 hown hK hP hD hS 0 rfl rfl 19 (by decide) (hts (.fieldLink RX5 39 "TypingTutorModel" "pace" "I") (List.mem_of_getElem? (i := 12) rfl)) (fun _ h9 => h9) rfl (by decide +kernel) rfl rfl (Nat.le_of_ble_eq_true rfl) dX5_finish_195 (fun H locs hP hD hS => ?_)
        have hP : va_P D vwCl (zWM cI cJ cZ (zh9 h q9) th (n, L) ((zcb kt pt), (zcb km pm), (zcb kl pl)) mc (false, wc, nu, lc, le, af, tr, ms, cl, tm) ((co + 1), (2 * yn), (upd (upd (upd (va_cpy yh (fun _ => 0) 0 0 yn) (3 * co) (nI lc)) ((3 * co) + 1) (nI cl)) ((3 * co) + 2) (nI tm)), (if 20 < (if (pa + ((pa / 20) + 1)) < 900 then (pa + ((pa / 20) + 1)) else 900) then (if (pa + ((pa / 20) + 1)) < 900 then (pa + ((pa / 20) + 1)) else 900) else 20)) ++ R) _ := hP
        have hD : va_D (zAb B) (zWM cI cJ cZ (zh9 h q9) th (n, L) ((zcb kt pt), (zcb km pm), (zcb kl pl)) mc (false, wc, nu, lc, le, af, tr, ms, cl, tm) ((co + 1), (2 * yn), (upd (upd (upd (va_cpy yh (fun _ => 0) 0 0 yn) (3 * co) (nI lc)) ((3 * co) + 1) (nI cl)) ((3 * co) + 2) (nI tm)), (if 20 < (if (pa + ((pa / 20) + 1)) < 900 then (pa + ((pa / 20) + 1)) else 900) then (if (pa + ((pa / 20) + 1)) < 900 then (pa + ((pa / 20) + 1)) else 900) else 20)) ++ R) := hD
        have e9 : zpc pa lc cl = (if 20 < (if (pa + ((pa / 20) + 1)) < 900 then (pa + ((pa / 20) + 1)) else 900) then (if (pa + ((pa / 20) + 1)) < 900 then (pa + ((pa / 20) + 1)) else 900) else 20) := by rw [zpc, if_pos (by omega), Int32.add_assoc]; exact (zmm_eq _).symm
        have hP : va_P D vwCl (zWM cI cJ cZ (zh9 h q9) th (n, L) ((zcb kt pt), (zcb km pm), (zcb kl pl)) mc (false, wc, nu, lc, le, af, tr, ms, cl, tm) ((co + 1), (2 * yn), (upd (upd (upd (va_cpy yh (fun _ => 0) 0 0 yn) (3 * co) (nI lc)) ((3 * co) + 1) (nI cl)) ((3 * co) + 2) (nI tm)), (zpc pa lc cl)) ++ R) H := by rw [e9]; exact hP
        have hD : va_D (zAb B) (zWM cI cJ cZ (zh9 h q9) th (n, L) ((zcb kt pt), (zcb km pm), (zcb kl pl)) mc (false, wc, nu, lc, le, af, tr, ms, cl, tm) ((co + 1), (2 * yn), (upd (upd (upd (va_cpy yh (fun _ => 0) 0 0 yn) (3 * co) (nI lc)) ((3 * co) + 1) (nI cl)) ((3 * co) + 2) (nI tm)), (zpc pa lc cl)) ++ R) := by rw [e9]; exact hD
        exact W.vret hx hb hr (fun t ht hW => ⟨⟨q9, rfl, trivial, by rw [ht]; exact hP, hD⟩, hS.F ht⟩) hS.2.2 dX5_finish_198
  | false =>
    refine Met.ofW (cc := cX5_finish) (maxL := 2) (ret := none) (by decide) rfl ?_
    intro p e s m args below meth c s₁ B0 hml hv
    obtain ⟨rfl, hP, hD, hK, hE, hB⟩ := hv
    have hx := B0.exec
    have hb := B0.bytes
    have hr := B0.returns
    have hts := atoms_spec (ws := wsX5_finish) B0.pre
    have hown : s.vm.findClass RX5 = some m.cls := findClass_of_methodNamed B0.named
    have hlocks := B0.notSynchronized
    have hA : ∀ q : Nat, s.heap.size ≤ q → zAb B q := fun q hq => Nat.le_trans hB hq
    have hS : va_S (zAb B) s.heap s.heap [] := va_S.rf
    have hgr : s.heap.size ≤ s.heap.size := Nat.le_refl _
    have hl := lv_entry ([.ref (h 0)]) (n := 2) (Nat.le_of_ble_eq_true rfl)
    rw [lg_entry_eq]
    generalize (lg_sl ([.ref (h 0)]) ++ List.replicate (2 - (lg_sl ([.ref (h 0)])).length) Slot.unset).toArray = ls at hl ⊢
    have hl : lv_has ls 2 [(0, .ref (h 0))] := hl
    have hinX5 : ∀ w ∈ wsX50, w ∈ wsX5_finish := fun _ h => List.mem_cons_of_mem _ (List.mem_append_right _ h)
    have hP : va_P D vwCl (zWM cI cJ cZ h th (n, L) ((zcb kt pt), (zcb km pm), (zcb kl pl)) mc (run, wc, nu, lc, le, af, tr, ms, cl, tm) (co, yn, yh, pa) ++ R) s.heap := hP
    have hD : va_D (zAb B) (zWM cI cJ cZ h th (n, L) ((zcb kt pt), (zcb km pm), (zcb kl pl)) mc (run, wc, nu, lc, le, af, tr, ms, cl, tm) (co, yn, yh, pa) ++ R) := hD
    have hg : 3 * co + 3 ≤ yn := hg
    refine lv_aload_n hx hb dX5_finish_0 rfl (lv_at hl 0 rfl) ?_
    refine lv_iconst (v := 0) hx hb dX5_finish_1 (by decide) ?_
    refine va_put (ci := 5) (v := .int 0) (ty := .boolean) (C := RX5) (T := TX5) (N := 20) hx hb hts hinX5 tyX5 tyX5_ok nmX5 hown hK hP hD hS 0 rfl rfl 7 (by decide) (hts (.fieldLink RX5 106 "TypingTutorModel" "isOpen" "Z") (List.mem_of_getElem? (i := 1) rfl)) (fun _ h9 => h9) rfl (by decide +kernel) rfl rfl (Nat.le_of_ble_eq_true rfl) dX5_finish_2 (fun H locs hP hD hS => ?_)
    have hP : va_P D vwCl (zWM cI cJ cZ h th (n, L) ((zcb kt pt), (zcb km pm), (zcb kl pl)) mc (false, wc, nu, lc, le, af, tr, ms, cl, tm) (co, yn, yh, pa) ++ R) _ := hP
    have hD : va_D (zAb B) (zWM cI cJ cZ h th (n, L) ((zcb kt pt), (zcb km pm), (zcb kl pl)) mc (false, wc, nu, lc, le, af, tr, ms, cl, tm) (co, yn, yh, pa) ++ R) := hD
    refine lv_iconst (v := 3) hx hb dX5_finish_5 (by decide) ?_
    refine lv_aload_n hx hb dX5_finish_6 rfl (lv_at hl 0 rfl) ?_
    refine va_get (ci := 5) (v := .int (nI co)) (C := RX5) (T := TX5) (N := 20) hx hb hts hinX5 hown hK hP 0 rfl rfl 17 (by decide) (hts (.fieldLink RX5 145 "TypingTutorModel" "finished" "I") (List.mem_of_getElem? (i := 2) rfl)) (fun _ h9 => h9) rfl dX5_finish_7 ?_
    refine lv_imul hx hb dX5_finish_10 ?_
    refine lv_topi (fun v_16 ev_16 => ?_)
    obtain rfl : v_16 = (nI (3 * co)) := ev_16.trans (pk_mul 3 co)
    refine lv_aload_n hx hb dX5_finish_11 rfl (lv_at hl 0 rfl) ?_
    refine va_get (ci := 5) (v := .ref (h 9)) (C := RX5) (T := TX5) (N := 20) hx hb hts hinX5 hown hK hP 0 rfl rfl 18 (by decide) (hts (.fieldLink RX5 36 "TypingTutorModel" "history" "[I") (List.mem_of_getElem? (i := 3) rfl)) (fun _ h9 => h9) rfl dX5_finish_12 ?_
    refine va_alen hx hb hK hP 9 0 rfl rfl (v := (nI yn)) rfl dX5_finish_15 ?_
    refine lv_icmp_ne (tgt := 49) hx hb dX5_finish_16 (by decide) (fun c_17 => ?_) (fun c_17 => ?_)
    · skip
      have c_17 : ¬ (3 * co) = yn := fun hh => c_17 ((nI_eq (a := (3 * co)) (b := yn) (by omega) (by omega)).mpr hh)
      refine lv_aload_n hx hb dX5_finish_49 rfl (lv_at hl 0 rfl) ?_
      refine va_get (ci := 5) (v := .ref (h 9)) (C := RX5) (T := TX5) (N := 20) hx hb hts hinX5 hown hK hP 0 rfl rfl 18 (by decide) (hts (.fieldLink RX5 36 "TypingTutorModel" "history" "[I") (List.mem_of_getElem? (i := 3) rfl)) (fun _ h9 => h9) rfl dX5_finish_50 ?_
      refine lv_iconst (v := 3) hx hb dX5_finish_53 (by decide) ?_
      refine lv_aload_n hx hb dX5_finish_54 rfl (lv_at hl 0 rfl) ?_
      refine va_get (ci := 5) (v := .int (nI co)) (C := RX5) (T := TX5) (N := 20) hx hb hts hinX5 hown hK hP 0 rfl rfl 17 (by decide) (hts (.fieldLink RX5 145 "TypingTutorModel" "finished" "I") (List.mem_of_getElem? (i := 2) rfl)) (fun _ h9 => h9) rfl dX5_finish_55 ?_
      refine lv_imul hx hb dX5_finish_58 ?_
      refine lv_topi (fun v_18 ev_18 => ?_)
      obtain rfl : v_18 = (nI (3 * co)) := ev_18.trans (pk_mul 3 co)
      refine lv_aload_n hx hb dX5_finish_59 rfl (lv_at hl 0 rfl) ?_
      refine va_get (ci := 5) (v := .int (nI lc)) (C := RX5) (T := TX5) (N := 20) hx hb hts hinX5 hown hK hP 0 rfl rfl 10 (by decide) (hts (.fieldLink RX5 103 "TypingTutorModel" "letters" "I") (List.mem_of_getElem? (i := 9) rfl)) (fun _ h9 => h9) rfl dX5_finish_60 ?_
      refine va_iast hx hb hK hP hD hS 9 0 rfl rfl (vp_in_nI (n := (3 * co)) (N := yn) (by omega) (by omega)) dX5_finish_63 (fun H locs hP hD hS => ?_)
      rw [pk_cl (x := (nI (3 * co))) (3 * co) (rfl) (by omega)] at hP hD
      have hP : va_P D vwCl (zWM cI cJ cZ h th (n, L) ((zcb kt pt), (zcb km pm), (zcb kl pl)) mc (false, wc, nu, lc, le, af, tr, ms, cl, tm) (co, yn, (upd yh (3 * co) (nI lc)), pa) ++ R) _ := hP
      have hD : va_D (zAb B) (zWM cI cJ cZ h th (n, L) ((zcb kt pt), (zcb km pm), (zcb kl pl)) mc (false, wc, nu, lc, le, af, tr, ms, cl, tm) (co, yn, (upd yh (3 * co) (nI lc)), pa) ++ R) := hD
      refine lv_aload_n hx hb dX5_finish_64 rfl (lv_at hl 0 rfl) ?_
      refine va_get (ci := 5) (v := .ref (h 9)) (C := RX5) (T := TX5) (N := 20) hx hb hts hinX5 hown hK hP 0 rfl rfl 18 (by decide) (hts (.fieldLink RX5 36 "TypingTutorModel" "history" "[I") (List.mem_of_getElem? (i := 3) rfl)) (fun _ h9 => h9) rfl dX5_finish_65 ?_
      refine lv_iconst (v := 3) hx hb dX5_finish_68 (by decide) ?_
      refine lv_aload_n hx hb dX5_finish_69 rfl (lv_at hl 0 rfl) ?_
      refine va_get (ci := 5) (v := .int (nI co)) (C := RX5) (T := TX5) (N := 20) hx hb hts hinX5 hown hK hP 0 rfl rfl 17 (by decide) (hts (.fieldLink RX5 145 "TypingTutorModel" "finished" "I") (List.mem_of_getElem? (i := 2) rfl)) (fun _ h9 => h9) rfl dX5_finish_70 ?_
      refine lv_imul hx hb dX5_finish_73 ?_
      refine lv_topi (fun v_19 ev_19 => ?_)
      obtain rfl : v_19 = (nI (3 * co)) := ev_19.trans (pk_mul 3 co)
      refine lv_iconst (v := 1) hx hb dX5_finish_74 (by decide) ?_
      refine lv_iadd hx hb dX5_finish_75 ?_
      refine lv_topi (fun v_20 ev_20 => ?_)
      obtain rfl : v_20 = (nI ((3 * co) + 1)) := ev_20.trans (nI_add (3 * co) 1)
      refine lv_aload_n hx hb dX5_finish_76 rfl (lv_at hl 0 rfl) ?_
      refine va_get (ci := 5) (v := .int (nI cl)) (C := RX5) (T := TX5) (N := 20) hx hb hts hinX5 hown hK hP 0 rfl rfl 15 (by decide) (hts (.fieldLink RX5 116 "TypingTutorModel" "clean" "I") (List.mem_of_getElem? (i := 10) rfl)) (fun _ h9 => h9) rfl dX5_finish_77 ?_
      refine va_iast hx hb hK hP hD hS 9 0 rfl rfl (vp_in_nI (n := ((3 * co) + 1)) (N := yn) (by omega) (by omega)) dX5_finish_80 (fun H locs hP hD hS => ?_)
      rw [pk_cl (x := (nI ((3 * co) + 1))) ((3 * co) + 1) (rfl) (by omega)] at hP hD
      have hP : va_P D vwCl (zWM cI cJ cZ h th (n, L) ((zcb kt pt), (zcb km pm), (zcb kl pl)) mc (false, wc, nu, lc, le, af, tr, ms, cl, tm) (co, yn, (upd (upd yh (3 * co) (nI lc)) ((3 * co) + 1) (nI cl)), pa) ++ R) _ := hP
      have hD : va_D (zAb B) (zWM cI cJ cZ h th (n, L) ((zcb kt pt), (zcb km pm), (zcb kl pl)) mc (false, wc, nu, lc, le, af, tr, ms, cl, tm) (co, yn, (upd (upd yh (3 * co) (nI lc)) ((3 * co) + 1) (nI cl)), pa) ++ R) := hD
      refine lv_aload_n hx hb dX5_finish_81 rfl (lv_at hl 0 rfl) ?_
      refine va_get (ci := 5) (v := .ref (h 9)) (C := RX5) (T := TX5) (N := 20) hx hb hts hinX5 hown hK hP 0 rfl rfl 18 (by decide) (hts (.fieldLink RX5 36 "TypingTutorModel" "history" "[I") (List.mem_of_getElem? (i := 3) rfl)) (fun _ h9 => h9) rfl dX5_finish_82 ?_
      refine lv_iconst (v := 3) hx hb dX5_finish_85 (by decide) ?_
      refine lv_aload_n hx hb dX5_finish_86 rfl (lv_at hl 0 rfl) ?_
      refine va_get (ci := 5) (v := .int (nI co)) (C := RX5) (T := TX5) (N := 20) hx hb hts hinX5 hown hK hP 0 rfl rfl 17 (by decide) (hts (.fieldLink RX5 145 "TypingTutorModel" "finished" "I") (List.mem_of_getElem? (i := 2) rfl)) (fun _ h9 => h9) rfl dX5_finish_87 ?_
      refine lv_imul hx hb dX5_finish_90 ?_
      refine lv_topi (fun v_21 ev_21 => ?_)
      obtain rfl : v_21 = (nI (3 * co)) := ev_21.trans (pk_mul 3 co)
      refine lv_iconst (v := 2) hx hb dX5_finish_91 (by decide) ?_
      refine lv_iadd hx hb dX5_finish_92 ?_
      refine lv_topi (fun v_22 ev_22 => ?_)
      obtain rfl : v_22 = (nI ((3 * co) + 2)) := ev_22.trans (nI_add (3 * co) 2)
      refine lv_aload_n hx hb dX5_finish_93 rfl (lv_at hl 0 rfl) ?_
      refine va_get (ci := 5) (v := .int (nI tm)) (C := RX5) (T := TX5) (N := 20) hx hb hts hinX5 hown hK hP 0 rfl rfl 16 (by decide) (hts (.fieldLink RX5 119 "TypingTutorModel" "time" "I") (List.mem_of_getElem? (i := 11) rfl)) (fun _ h9 => h9) rfl dX5_finish_94 ?_
      refine va_iast hx hb hK hP hD hS 9 0 rfl rfl (vp_in_nI (n := ((3 * co) + 2)) (N := yn) (by omega) (by omega)) dX5_finish_97 (fun H locs hP hD hS => ?_)
      rw [pk_cl (x := (nI ((3 * co) + 2))) ((3 * co) + 2) (rfl) (by omega)] at hP hD
      have hP : va_P D vwCl (zWM cI cJ cZ h th (n, L) ((zcb kt pt), (zcb km pm), (zcb kl pl)) mc (false, wc, nu, lc, le, af, tr, ms, cl, tm) (co, yn, (upd (upd (upd yh (3 * co) (nI lc)) ((3 * co) + 1) (nI cl)) ((3 * co) + 2) (nI tm)), pa) ++ R) _ := hP
      have hD : va_D (zAb B) (zWM cI cJ cZ h th (n, L) ((zcb kt pt), (zcb km pm), (zcb kl pl)) mc (false, wc, nu, lc, le, af, tr, ms, cl, tm) (co, yn, (upd (upd (upd yh (3 * co) (nI lc)) ((3 * co) + 1) (nI cl)) ((3 * co) + 2) (nI tm)), pa) ++ R) := hD
      refine lv_aload_n hx hb dX5_finish_98 rfl (lv_at hl 0 rfl) ?_
      refine lv_dup hx hb dX5_finish_99 rfl ?_
      refine va_get (ci := 5) (v := .int (nI co)) (C := RX5) (T := TX5) (N := 20) hx hb hts hinX5 hown hK hP 0 rfl rfl 17 (by decide) (hts (.fieldLink RX5 145 "TypingTutorModel" "finished" "I") (List.mem_of_getElem? (i := 2) rfl)) (fun _ h9 => h9) rfl dX5_finish_100 ?_
      refine lv_iconst (v := 1) hx hb dX5_finish_103 (by decide) ?_
      refine lv_iadd hx hb dX5_finish_104 ?_
      refine lv_topi (fun v_23 ev_23 => ?_)
      obtain rfl : v_23 = (nI (co + 1)) := ev_23.trans (nI_add co 1)
      refine va_put (ci := 5) (v := .int (nI (co + 1))) (ty := .int) (C := RX5) (T := TX5) (N := 20) hx hb hts hinX5 tyX5 tyX5_ok nmX5 hown hK hP hD hS 0 rfl rfl 17 (by decide) (hts (.fieldLink RX5 145 "TypingTutorModel" "finished" "I") (List.mem_of_getElem? (i := 2) rfl)) (fun _ h9 => h9) rfl (by decide +kernel) rfl rfl (Nat.le_of_ble_eq_true rfl) dX5_finish_105 (fun H locs hP hD hS => ?_)
      have hP : va_P D vwCl (zWM cI cJ cZ h th (n, L) ((zcb kt pt), (zcb km pm), (zcb kl pl)) mc (false, wc, nu, lc, le, af, tr, ms, cl, tm) ((co + 1), yn, (upd (upd (upd yh (3 * co) (nI lc)) ((3 * co) + 1) (nI cl)) ((3 * co) + 2) (nI tm)), pa) ++ R) _ := hP
      have hD : va_D (zAb B) (zWM cI cJ cZ h th (n, L) ((zcb kt pt), (zcb km pm), (zcb kl pl)) mc (false, wc, nu, lc, le, af, tr, ms, cl, tm) ((co + 1), yn, (upd (upd (upd yh (3 * co) (nI lc)) ((3 * co) + 1) (nI cl)) ((3 * co) + 2) (nI tm)), pa) ++ R) := hD
      refine lv_bipush (v := 100) hx hb dX5_finish_108 (by decide) ?_
      refine lv_aload_n hx hb dX5_finish_110 rfl (lv_at hl 0 rfl) ?_
      refine va_get (ci := 5) (v := .int (nI cl)) (C := RX5) (T := TX5) (N := 20) hx hb hts hinX5 hown hK hP 0 rfl rfl 15 (by decide) (hts (.fieldLink RX5 116 "TypingTutorModel" "clean" "I") (List.mem_of_getElem? (i := 10) rfl)) (fun _ h9 => h9) rfl dX5_finish_111 ?_
      refine lv_imul hx hb dX5_finish_114 ?_
      refine lv_topi (fun v_24 ev_24 => ?_)
      obtain rfl : v_24 = (nI (100 * cl)) := ev_24.trans (pk_mul 100 cl)
      refine lv_bipush (v := 95) hx hb dX5_finish_115 (by decide) ?_
      refine lv_aload_n hx hb dX5_finish_117 rfl (lv_at hl 0 rfl) ?_
      refine va_get (ci := 5) (v := .int (nI lc)) (C := RX5) (T := TX5) (N := 20) hx hb hts hinX5 hown hK hP 0 rfl rfl 10 (by decide) (hts (.fieldLink RX5 103 "TypingTutorModel" "letters" "I") (List.mem_of_getElem? (i := 9) rfl)) (fun _ h9 => h9) rfl dX5_finish_118 ?_
      refine lv_imul hx hb dX5_finish_121 ?_
      refine lv_topi (fun v_25 ev_25 => ?_)
      obtain rfl : v_25 = (nI (95 * lc)) := ev_25.trans (pk_mul 95 lc)
      refine lv_icmp_lt (tgt := 146) hx hb dX5_finish_122 (by decide) (fun c_26 => ?_) (fun c_26 => ?_)
      · skip
        have c_26 : (100 * cl) < (95 * lc) := (nI_ltI (a := (100 * cl)) (b := (95 * lc)) (by omega) (by omega)).mp c_26
        refine lv_bipush (v := 100) hx hb dX5_finish_146 (by decide) ?_
        refine lv_aload_n hx hb dX5_finish_148 rfl (lv_at hl 0 rfl) ?_
        refine va_get (ci := 5) (v := .int (nI cl)) (C := RX5) (T := TX5) (N := 20) hx hb hts hinX5 hown hK hP 0 rfl rfl 15 (by decide) (hts (.fieldLink RX5 116 "TypingTutorModel" "clean" "I") (List.mem_of_getElem? (i := 10) rfl)) (fun _ h9 => h9) rfl dX5_finish_149 ?_
        refine lv_imul hx hb dX5_finish_152 ?_
        refine lv_topi (fun v_27 ev_27 => ?_)
        obtain rfl : v_27 = (nI (100 * cl)) := ev_27.trans (pk_mul 100 cl)
        refine lv_bipush (v := 85) hx hb dX5_finish_153 (by decide) ?_
        refine lv_aload_n hx hb dX5_finish_155 rfl (lv_at hl 0 rfl) ?_
        refine va_get (ci := 5) (v := .int (nI lc)) (C := RX5) (T := TX5) (N := 20) hx hb hts hinX5 hown hK hP 0 rfl rfl 10 (by decide) (hts (.fieldLink RX5 103 "TypingTutorModel" "letters" "I") (List.mem_of_getElem? (i := 9) rfl)) (fun _ h9 => h9) rfl dX5_finish_156 ?_
        refine lv_imul hx hb dX5_finish_159 ?_
        refine lv_topi (fun v_28 ev_28 => ?_)
        obtain rfl : v_28 = (nI (85 * lc)) := ev_28.trans (pk_mul 85 lc)
        refine lv_icmp_ge (tgt := 179) hx hb dX5_finish_160 (by decide) (fun c_29 => ?_) (fun c_29 => ?_)
        · skip
          have c_29 : (85 * lc) ≤ (100 * cl) := (nI_leI (a := (85 * lc)) (b := (100 * cl)) (by omega) (by omega)).mp c_29
          refine lv_aload_n hx hb dX5_finish_179 rfl (lv_at hl 0 rfl) ?_
          refine lv_bipush (v := 20) hx hb dX5_finish_180 (by decide) ?_
          refine lv_sipush (v := 900) hx hb dX5_finish_182 (by decide) ?_
          refine lv_aload_n hx hb dX5_finish_185 rfl (lv_at hl 0 rfl) ?_
          refine va_get (ci := 5) (v := .int pa) (C := RX5) (T := TX5) (N := 20) hx hb hts hinX5 hown hK hP 0 rfl rfl 19 (by decide) (hts (.fieldLink RX5 39 "TypingTutorModel" "pace" "I") (List.mem_of_getElem? (i := 12) rfl)) (fun _ h9 => h9) rfl dX5_finish_186 ?_
          refine va_mmin hx hb (hml.trans hl.1.symm) hown (hts (.methodLink RX5 154 Lib.Math.min.name) (List.mem_of_getElem? (i := 13) rfl)) (hts (.static Lib.Math.min.name) (List.mem_of_getElem? (i := 14) rfl)) (hts (.initialized "java/lang/Math") (List.mem_of_getElem? (i := 15) rfl)) (hts (.code Lib.Math.min.name Lib.Math.min.code 2 (some .int)) (List.mem_of_getElem? (i := 16) rfl)) (Nat.le_of_ble_eq_true rfl) (Nat.le_of_ble_eq_true rfl) (Nat.le_of_ble_eq_true rfl) (Nat.le_of_ble_eq_true rfl) dX5_finish_189 ?_
          refine va_mmax hx hb (hml.trans hl.1.symm) hown (hts (.methodLink RX5 135 Lib.Math.max.name) (List.mem_of_getElem? (i := 17) rfl)) (hts (.static Lib.Math.max.name) (List.mem_of_getElem? (i := 18) rfl)) (hts (.initialized "java/lang/Math") (List.mem_of_getElem? (i := 15) rfl)) (hts (.code Lib.Math.max.name Lib.Math.max.code 2 (some .int)) (List.mem_of_getElem? (i := 19) rfl)) (Nat.le_of_ble_eq_true rfl) (Nat.le_of_ble_eq_true rfl) (Nat.le_of_ble_eq_true rfl) (Nat.le_of_ble_eq_true rfl) dX5_finish_192 ?_
          refine va_put (ci := 5) (v := .int (if 20 < (if pa < 900 then pa else 900) then (if pa < 900 then pa else 900) else 20)) (ty := .int) (C := RX5) (T := TX5) (N := 20) hx hb hts hinX5 tyX5 tyX5_ok nmX5 hown hK hP hD hS 0 rfl rfl 19 (by decide) (hts (.fieldLink RX5 39 "TypingTutorModel" "pace" "I") (List.mem_of_getElem? (i := 12) rfl)) (fun _ h9 => h9) rfl (by decide +kernel) rfl rfl (Nat.le_of_ble_eq_true rfl) dX5_finish_195 (fun H locs hP hD hS => ?_)
          have hP : va_P D vwCl (zWM cI cJ cZ h th (n, L) ((zcb kt pt), (zcb km pm), (zcb kl pl)) mc (false, wc, nu, lc, le, af, tr, ms, cl, tm) ((co + 1), yn, (upd (upd (upd yh (3 * co) (nI lc)) ((3 * co) + 1) (nI cl)) ((3 * co) + 2) (nI tm)), (if 20 < (if pa < 900 then pa else 900) then (if pa < 900 then pa else 900) else 20)) ++ R) _ := hP
          have hD : va_D (zAb B) (zWM cI cJ cZ h th (n, L) ((zcb kt pt), (zcb km pm), (zcb kl pl)) mc (false, wc, nu, lc, le, af, tr, ms, cl, tm) ((co + 1), yn, (upd (upd (upd yh (3 * co) (nI lc)) ((3 * co) + 1) (nI cl)) ((3 * co) + 2) (nI tm)), (if 20 < (if pa < 900 then pa else 900) then (if pa < 900 then pa else 900) else 20)) ++ R) := hD
          have e9 : zpc pa lc cl = (if 20 < (if pa < 900 then pa else 900) then (if pa < 900 then pa else 900) else 20) := by rw [zpc, if_neg (by omega), if_neg (by omega)]; exact (zmm_eq _).symm
          have hP : va_P D vwCl (zWM cI cJ cZ h th (n, L) ((zcb kt pt), (zcb km pm), (zcb kl pl)) mc (false, wc, nu, lc, le, af, tr, ms, cl, tm) ((co + 1), yn, (upd (upd (upd yh (3 * co) (nI lc)) ((3 * co) + 1) (nI cl)) ((3 * co) + 2) (nI tm)), (zpc pa lc cl)) ++ R) H := by rw [e9]; exact hP
          have hD : va_D (zAb B) (zWM cI cJ cZ h th (n, L) ((zcb kt pt), (zcb km pm), (zcb kl pl)) mc (false, wc, nu, lc, le, af, tr, ms, cl, tm) ((co + 1), yn, (upd (upd (upd yh (3 * co) (nI lc)) ((3 * co) + 1) (nI cl)) ((3 * co) + 2) (nI tm)), (zpc pa lc cl)) ++ R) := by rw [e9]; exact hD
          refine W.widen (k := 1) (n := 1536) (Nat.le_of_ble_eq_true rfl) (Nat.le_of_ble_eq_true rfl) ?_
          exact W.vret hx hb hr (fun t ht hW => ⟨⟨(h 9), rfl, trivial, by rw [ht]; exact hP, hD⟩, hS.F ht⟩) hS.2.2 dX5_finish_198
        · skip
          have c_29 : ¬ (85 * lc) ≤ (100 * cl) := fun hh => c_29 ((nI_leI (a := (85 * lc)) (b := (100 * cl)) (by omega) (by omega)).mpr hh)
          refine lv_aload_n hx hb dX5_finish_163 rfl (lv_at hl 0 rfl) ?_
          refine lv_dup hx hb dX5_finish_164 rfl ?_
          refine va_get (ci := 5) (v := .int pa) (C := RX5) (T := TX5) (N := 20) hx hb hts hinX5 hown hK hP 0 rfl rfl 19 (by decide) (hts (.fieldLink RX5 39 "TypingTutorModel" "pace" "I") (List.mem_of_getElem? (i := 12) rfl)) (fun _ h9 => h9) rfl dX5_finish_165 ?_
          refine lv_aload_n hx hb dX5_finish_168 rfl (lv_at hl 0 rfl) ?_
          refine va_get (ci := 5) (v := .int pa) (C := RX5) (T := TX5) (N := 20) hx hb hts hinX5 hown hK hP 0 rfl rfl 19 (by decide) (hts (.fieldLink RX5 39 "TypingTutorModel" "pace" "I") (List.mem_of_getElem? (i := 12) rfl)) (fun _ h9 => h9) rfl dX5_finish_169 ?_
          refine lv_bipush (v := 10) hx hb dX5_finish_172 (by decide) ?_
          refine lv_idiv hx hb dX5_finish_174 (by decide) ?_
          refine lv_isub hx hb dX5_finish_175 ?_
          refine va_put (ci := 5) (v := .int (pa - (pa / 10))) (ty := .int) (C := RX5) (T := TX5) (N := 20) hx hb hts hinX5 tyX5 tyX5_ok nmX5 hown hK hP hD hS 0 rfl rfl 19 (by decide) (hts (.fieldLink RX5 39 "TypingTutorModel" "pace" "I") (List.mem_of_getElem? (i := 12) rfl)) (fun _ h9 => h9) rfl (by decide +kernel) rfl rfl (Nat.le_of_ble_eq_true rfl) dX5_finish_176 (fun H locs hP hD hS => ?_)
          have hP : va_P D vwCl (zWM cI cJ cZ h th (n, L) ((zcb kt pt), (zcb km pm), (zcb kl pl)) mc (false, wc, nu, lc, le, af, tr, ms, cl, tm) ((co + 1), yn, (upd (upd (upd yh (3 * co) (nI lc)) ((3 * co) + 1) (nI cl)) ((3 * co) + 2) (nI tm)), (pa - (pa / 10))) ++ R) _ := hP
          have hD : va_D (zAb B) (zWM cI cJ cZ h th (n, L) ((zcb kt pt), (zcb km pm), (zcb kl pl)) mc (false, wc, nu, lc, le, af, tr, ms, cl, tm) ((co + 1), yn, (upd (upd (upd yh (3 * co) (nI lc)) ((3 * co) + 1) (nI cl)) ((3 * co) + 2) (nI tm)), (pa - (pa / 10))) ++ R) := hD
          refine lv_aload_n hx hb dX5_finish_179 rfl (lv_at hl 0 rfl) ?_
          refine lv_bipush (v := 20) hx hb dX5_finish_180 (by decide) ?_
          refine lv_sipush (v := 900) hx hb dX5_finish_182 (by decide) ?_
          refine lv_aload_n hx hb dX5_finish_185 rfl (lv_at hl 0 rfl) ?_
          refine va_get (ci := 5) (v := .int (pa - (pa / 10))) (C := RX5) (T := TX5) (N := 20) hx hb hts hinX5 hown hK hP 0 rfl rfl 19 (by decide) (hts (.fieldLink RX5 39 "TypingTutorModel" "pace" "I") (List.mem_of_getElem? (i := 12) rfl)) (fun _ h9 => h9) rfl dX5_finish_186 ?_
          refine va_mmin hx hb (hml.trans hl.1.symm) hown (hts (.methodLink RX5 154 Lib.Math.min.name) (List.mem_of_getElem? (i := 13) rfl)) (hts (.static Lib.Math.min.name) (List.mem_of_getElem? (i := 14) rfl)) (hts (.initialized "java/lang/Math") (List.mem_of_getElem? (i := 15) rfl)) (hts (.code Lib.Math.min.name Lib.Math.min.code 2 (some .int)) (List.mem_of_getElem? (i := 16) rfl)) (Nat.le_of_ble_eq_true rfl) (Nat.le_of_ble_eq_true rfl) (Nat.le_of_ble_eq_true rfl) (Nat.le_of_ble_eq_true rfl) dX5_finish_189 ?_
          refine va_mmax hx hb (hml.trans hl.1.symm) hown (hts (.methodLink RX5 135 Lib.Math.max.name) (List.mem_of_getElem? (i := 17) rfl)) (hts (.static Lib.Math.max.name) (List.mem_of_getElem? (i := 18) rfl)) (hts (.initialized "java/lang/Math") (List.mem_of_getElem? (i := 15) rfl)) (hts (.code Lib.Math.max.name Lib.Math.max.code 2 (some .int)) (List.mem_of_getElem? (i := 19) rfl)) (Nat.le_of_ble_eq_true rfl) (Nat.le_of_ble_eq_true rfl) (Nat.le_of_ble_eq_true rfl) (Nat.le_of_ble_eq_true rfl) dX5_finish_192 ?_
          refine va_put (ci := 5) (v := .int (if 20 < (if (pa - (pa / 10)) < 900 then (pa - (pa / 10)) else 900) then (if (pa - (pa / 10)) < 900 then (pa - (pa / 10)) else 900) else 20)) (ty := .int) (C := RX5) (T := TX5) (N := 20) hx hb hts hinX5 tyX5 tyX5_ok nmX5 hown hK hP hD hS 0 rfl rfl 19 (by decide) (hts (.fieldLink RX5 39 "TypingTutorModel" "pace" "I") (List.mem_of_getElem? (i := 12) rfl)) (fun _ h9 => h9) rfl (by decide +kernel) rfl rfl (Nat.le_of_ble_eq_true rfl) dX5_finish_195 (fun H locs hP hD hS => ?_)
          have hP : va_P D vwCl (zWM cI cJ cZ h th (n, L) ((zcb kt pt), (zcb km pm), (zcb kl pl)) mc (false, wc, nu, lc, le, af, tr, ms, cl, tm) ((co + 1), yn, (upd (upd (upd yh (3 * co) (nI lc)) ((3 * co) + 1) (nI cl)) ((3 * co) + 2) (nI tm)), (if 20 < (if (pa - (pa / 10)) < 900 then (pa - (pa / 10)) else 900) then (if (pa - (pa / 10)) < 900 then (pa - (pa / 10)) else 900) else 20)) ++ R) _ := hP
          have hD : va_D (zAb B) (zWM cI cJ cZ h th (n, L) ((zcb kt pt), (zcb km pm), (zcb kl pl)) mc (false, wc, nu, lc, le, af, tr, ms, cl, tm) ((co + 1), yn, (upd (upd (upd yh (3 * co) (nI lc)) ((3 * co) + 1) (nI cl)) ((3 * co) + 2) (nI tm)), (if 20 < (if (pa - (pa / 10)) < 900 then (pa - (pa / 10)) else 900) then (if (pa - (pa / 10)) < 900 then (pa - (pa / 10)) else 900) else 20)) ++ R) := hD
          have e9 : zpc pa lc cl = (if 20 < (if (pa - (pa / 10)) < 900 then (pa - (pa / 10)) else 900) then (if (pa - (pa / 10)) < 900 then (pa - (pa / 10)) else 900) else 20) := by rw [zpc, if_neg (by omega), if_pos (by omega)]; exact (zmm_eq _).symm
          have hP : va_P D vwCl (zWM cI cJ cZ h th (n, L) ((zcb kt pt), (zcb km pm), (zcb kl pl)) mc (false, wc, nu, lc, le, af, tr, ms, cl, tm) ((co + 1), yn, (upd (upd (upd yh (3 * co) (nI lc)) ((3 * co) + 1) (nI cl)) ((3 * co) + 2) (nI tm)), (zpc pa lc cl)) ++ R) H := by rw [e9]; exact hP
          have hD : va_D (zAb B) (zWM cI cJ cZ h th (n, L) ((zcb kt pt), (zcb km pm), (zcb kl pl)) mc (false, wc, nu, lc, le, af, tr, ms, cl, tm) ((co + 1), yn, (upd (upd (upd yh (3 * co) (nI lc)) ((3 * co) + 1) (nI cl)) ((3 * co) + 2) (nI tm)), (zpc pa lc cl)) ++ R) := by rw [e9]; exact hD
          refine W.widen (k := 1) (n := 1536) (Nat.le_of_ble_eq_true rfl) (Nat.le_of_ble_eq_true rfl) ?_
          exact W.vret hx hb hr (fun t ht hW => ⟨⟨(h 9), rfl, trivial, by rw [ht]; exact hP, hD⟩, hS.F ht⟩) hS.2.2 dX5_finish_198
      · skip
        have c_26 : ¬ (100 * cl) < (95 * lc) := fun hh => c_26 ((nI_ltI (a := (100 * cl)) (b := (95 * lc)) (by omega) (by omega)).mpr hh)
        refine lv_aload_n hx hb dX5_finish_125 rfl (lv_at hl 0 rfl) ?_
        refine lv_dup hx hb dX5_finish_126 rfl ?_
        refine va_get (ci := 5) (v := .int pa) (C := RX5) (T := TX5) (N := 20) hx hb hts hinX5 hown hK hP 0 rfl rfl 19 (by decide) (hts (.fieldLink RX5 39 "TypingTutorModel" "pace" "I") (List.mem_of_getElem? (i := 12) rfl)) (fun _ h9 => h9) rfl dX5_finish_127 ?_
        refine lv_aload_n hx hb dX5_finish_130 rfl (lv_at hl 0 rfl) ?_
        refine va_get (ci := 5) (v := .int pa) (C := RX5) (T := TX5) (N := 20) hx hb hts hinX5 hown hK hP 0 rfl rfl 19 (by decide) (hts (.fieldLink RX5 39 "TypingTutorModel" "pace" "I") (List.mem_of_getElem? (i := 12) rfl)) (fun _ h9 => h9) rfl dX5_finish_131 ?_
        refine lv_bipush (v := 20) hx hb dX5_finish_134 (by decide) ?_
        refine lv_idiv hx hb dX5_finish_136 (by decide) ?_
        refine lv_iconst (v := 1) hx hb dX5_finish_137 (by decide) ?_
        refine lv_iadd hx hb dX5_finish_138 ?_
        refine lv_iadd hx hb dX5_finish_139 ?_
        refine va_put (ci := 5) (v := .int (pa + ((pa / 20) + 1))) (ty := .int) (C := RX5) (T := TX5) (N := 20) hx hb hts hinX5 tyX5 tyX5_ok nmX5 hown hK hP hD hS 0 rfl rfl 19 (by decide) (hts (.fieldLink RX5 39 "TypingTutorModel" "pace" "I") (List.mem_of_getElem? (i := 12) rfl)) (fun _ h9 => h9) rfl (by decide +kernel) rfl rfl (Nat.le_of_ble_eq_true rfl) dX5_finish_140 (fun H locs hP hD hS => ?_)
        have hP : va_P D vwCl (zWM cI cJ cZ h th (n, L) ((zcb kt pt), (zcb km pm), (zcb kl pl)) mc (false, wc, nu, lc, le, af, tr, ms, cl, tm) ((co + 1), yn, (upd (upd (upd yh (3 * co) (nI lc)) ((3 * co) + 1) (nI cl)) ((3 * co) + 2) (nI tm)), (pa + ((pa / 20) + 1))) ++ R) _ := hP
        have hD : va_D (zAb B) (zWM cI cJ cZ h th (n, L) ((zcb kt pt), (zcb km pm), (zcb kl pl)) mc (false, wc, nu, lc, le, af, tr, ms, cl, tm) ((co + 1), yn, (upd (upd (upd yh (3 * co) (nI lc)) ((3 * co) + 1) (nI cl)) ((3 * co) + 2) (nI tm)), (pa + ((pa / 20) + 1))) ++ R) := hD
        refine lv_goto (tgt := 179) hx hb dX5_finish_143 (by decide) ?_
        refine lv_aload_n hx hb dX5_finish_179 rfl (lv_at hl 0 rfl) ?_
        refine lv_bipush (v := 20) hx hb dX5_finish_180 (by decide) ?_
        refine lv_sipush (v := 900) hx hb dX5_finish_182 (by decide) ?_
        refine lv_aload_n hx hb dX5_finish_185 rfl (lv_at hl 0 rfl) ?_
        refine va_get (ci := 5) (v := .int (pa + ((pa / 20) + 1))) (C := RX5) (T := TX5) (N := 20) hx hb hts hinX5 hown hK hP 0 rfl rfl 19 (by decide) (hts (.fieldLink RX5 39 "TypingTutorModel" "pace" "I") (List.mem_of_getElem? (i := 12) rfl)) (fun _ h9 => h9) rfl dX5_finish_186 ?_
        refine va_mmin hx hb (hml.trans hl.1.symm) hown (hts (.methodLink RX5 154 Lib.Math.min.name) (List.mem_of_getElem? (i := 13) rfl)) (hts (.static Lib.Math.min.name) (List.mem_of_getElem? (i := 14) rfl)) (hts (.initialized "java/lang/Math") (List.mem_of_getElem? (i := 15) rfl)) (hts (.code Lib.Math.min.name Lib.Math.min.code 2 (some .int)) (List.mem_of_getElem? (i := 16) rfl)) (Nat.le_of_ble_eq_true rfl) (Nat.le_of_ble_eq_true rfl) (Nat.le_of_ble_eq_true rfl) (Nat.le_of_ble_eq_true rfl) dX5_finish_189 ?_
        refine va_mmax hx hb (hml.trans hl.1.symm) hown (hts (.methodLink RX5 135 Lib.Math.max.name) (List.mem_of_getElem? (i := 17) rfl)) (hts (.static Lib.Math.max.name) (List.mem_of_getElem? (i := 18) rfl)) (hts (.initialized "java/lang/Math") (List.mem_of_getElem? (i := 15) rfl)) (hts (.code Lib.Math.max.name Lib.Math.max.code 2 (some .int)) (List.mem_of_getElem? (i := 19) rfl)) (Nat.le_of_ble_eq_true rfl) (Nat.le_of_ble_eq_true rfl) (Nat.le_of_ble_eq_true rfl) (Nat.le_of_ble_eq_true rfl) dX5_finish_192 ?_
        refine va_put (ci := 5) (v := .int (if 20 < (if (pa + ((pa / 20) + 1)) < 900 then (pa + ((pa / 20) + 1)) else 900) then (if (pa + ((pa / 20) + 1)) < 900 then (pa + ((pa / 20) + 1)) else 900) else 20)) (ty := .int) (C := RX5) (T := TX5) (N := 20) hx hb hts hinX5 tyX5 tyX5_ok nmX5 hown hK hP hD hS 0 rfl rfl 19 (by decide) (hts (.fieldLink RX5 39 "TypingTutorModel" "pace" "I") (List.mem_of_getElem? (i := 12) rfl)) (fun _ h9 => h9) rfl (by decide +kernel) rfl rfl (Nat.le_of_ble_eq_true rfl) dX5_finish_195 (fun H locs hP hD hS => ?_)
        have hP : va_P D vwCl (zWM cI cJ cZ h th (n, L) ((zcb kt pt), (zcb km pm), (zcb kl pl)) mc (false, wc, nu, lc, le, af, tr, ms, cl, tm) ((co + 1), yn, (upd (upd (upd yh (3 * co) (nI lc)) ((3 * co) + 1) (nI cl)) ((3 * co) + 2) (nI tm)), (if 20 < (if (pa + ((pa / 20) + 1)) < 900 then (pa + ((pa / 20) + 1)) else 900) then (if (pa + ((pa / 20) + 1)) < 900 then (pa + ((pa / 20) + 1)) else 900) else 20)) ++ R) _ := hP
        have hD : va_D (zAb B) (zWM cI cJ cZ h th (n, L) ((zcb kt pt), (zcb km pm), (zcb kl pl)) mc (false, wc, nu, lc, le, af, tr, ms, cl, tm) ((co + 1), yn, (upd (upd (upd yh (3 * co) (nI lc)) ((3 * co) + 1) (nI cl)) ((3 * co) + 2) (nI tm)), (if 20 < (if (pa + ((pa / 20) + 1)) < 900 then (pa + ((pa / 20) + 1)) else 900) then (if (pa + ((pa / 20) + 1)) < 900 then (pa + ((pa / 20) + 1)) else 900) else 20)) ++ R) := hD
        have e9 : zpc pa lc cl = (if 20 < (if (pa + ((pa / 20) + 1)) < 900 then (pa + ((pa / 20) + 1)) else 900) then (if (pa + ((pa / 20) + 1)) < 900 then (pa + ((pa / 20) + 1)) else 900) else 20) := by rw [zpc, if_pos (by omega), Int32.add_assoc]; exact (zmm_eq _).symm
        have hP : va_P D vwCl (zWM cI cJ cZ h th (n, L) ((zcb kt pt), (zcb km pm), (zcb kl pl)) mc (false, wc, nu, lc, le, af, tr, ms, cl, tm) ((co + 1), yn, (upd (upd (upd yh (3 * co) (nI lc)) ((3 * co) + 1) (nI cl)) ((3 * co) + 2) (nI tm)), (zpc pa lc cl)) ++ R) H := by rw [e9]; exact hP
        have hD : va_D (zAb B) (zWM cI cJ cZ h th (n, L) ((zcb kt pt), (zcb km pm), (zcb kl pl)) mc (false, wc, nu, lc, le, af, tr, ms, cl, tm) ((co + 1), yn, (upd (upd (upd yh (3 * co) (nI lc)) ((3 * co) + 1) (nI cl)) ((3 * co) + 2) (nI tm)), (zpc pa lc cl)) ++ R) := by rw [e9]; exact hD
        refine W.widen (k := 1) (n := 1536) (Nat.le_of_ble_eq_true rfl) (Nat.le_of_ble_eq_true rfl) ?_
        exact W.vret hx hb hr (fun t ht hW => ⟨⟨(h 9), rfl, trivial, by rw [ht]; exact hP, hD⟩, hS.F ht⟩) hS.2.2 dX5_finish_198
    · skip
      have c_17 : (3 * co) = yn := (nI_eq (a := (3 * co)) (b := yn) (by omega) (by omega)).mp c_17
      omega

set_option maxHeartbeats 1000000 in
set_option maxRecDepth 100000 in
theorem c_X5_tryLetter {l : Launch} {B kr kp : Nat} {D : va_G} {cI cJ cZ : ClassId} {h : Nat → Nat} {R : va_W} {th : Int32} {n : Nat} {L : Nat → Int64} {kt : Nat → Int32} {km : Nat → Int32} {kl : Nat → Int32} {pt : Nat → Int32} {pm : Nat → Int32} {pl : Nat → Int32} {nu : Nat → Int32} {le : Nat → Int32} {af : Nat → Int32} {run : Bool} {wc : Nat} {lc : Nat} {tr : Nat} {cl : Nat} {tm : Nat} {ms : Nat} {co : Nat} {yn : Nat} {yh : Nat → Int32} {pa : Int32} {mc : Nat → Int32} {time : Int32} {x : Nat} {o : Option Nat} {fin : Bool} {g : Bool}  (hx9 : le tr = nI x) (hx26 : x < 26) (ho1 : o = none → ¬ af tr = 0) (ho2 : ∀ y, o = some y → af tr = 0 ∧ 0 < tr ∧ le (tr - 1) = nI y ∧ y < 26) (hf : zsel fin (tr + 1 = lc) (tr + 1 < lc)) (htr : tr < lc) (hlc : lc ≤ 48) (hcl : cl ≤ tr) (hco : co < 256) (h2ms : ms ≤ 2) (hg : zsel g (3 * co = yn) (3 * co + 3 ≤ yn)) (hyn : yn ≤ 1530) (hy12 : 12 ≤ yn) : Met l yX5_tryLetter wsX5_tryLetter ({ frames := 2, cells := 1, slots := 1536, locals := 81 }) (zPc B kr kp D (zTy cI cJ cZ) (zWM cI cJ cZ h th (n, L) ((zcb kt pt), (zcb km pm), (zcb kl pl)) mc (run, wc, nu, lc, le, af, tr, ms, cl, tm) (co, yn, yh, pa) ++ R) [.ref (h 0), .int time]) (zQvh B D (fun q9 => (zWM cI cJ cZ (zh9 h q9) th (n, L) ((zcb (zkt kt x) (zou o x pt (zkt pt))), (zcb (zkm (zc0 ms) km x) (zou o x pm (zkm (zc0 ms) pm))), (zcb (zkl (zc0 ms) kl x time) (zou o x pl (fun p => zkl (zc0 ms) pl p time)))) mc ((zsel fin false run), wc, nu, lc, le, af, (tr + 1), 0, (zsel (zc0 ms) (cl + 1) cl), tm) ((zsel fin (co + 1) co), (zsel fin (zyn g yn) yn), (zsel fin (zh3 (zyh g yh yn) co lc (zsel (zc0 ms) (cl + 1) cl) tm) yh), (zsel fin (zpc pa lc (zsel (zc0 ms) (cl + 1) cl)) pa)) ++ R))) 1 1536 (zAb B) := by
  cases ms with
  | zero =>
    cases o with
    | none =>
      cases fin with
      | true =>
        refine Met.ofW (cc := cX5_tryLetter) (maxL := 4) (ret := none) (by decide) rfl ?_
        intro p e s m args below meth c s₁ B0 hml hv
        obtain ⟨rfl, hP, hD, hK, hE, hB⟩ := hv
        have hx := B0.exec
        have hb := B0.bytes
        have hr := B0.returns
        have hts := atoms_spec (ws := wsX5_tryLetter) B0.pre
        have hown : s.vm.findClass RX5 = some m.cls := findClass_of_methodNamed B0.named
        have hlocks := B0.notSynchronized
        have hA : ∀ q : Nat, s.heap.size ≤ q → zAb B q := fun q hq => Nat.le_trans hB hq
        have hS : va_S (zAb B) s.heap s.heap [] := va_S.rf
        have hgr : s.heap.size ≤ s.heap.size := Nat.le_refl _
        have hl := lv_entry ([.ref (h 0), .int time]) (n := 4) (Nat.le_of_ble_eq_true rfl)
        rw [lg_entry_eq]
        generalize (lg_sl ([.ref (h 0), .int time]) ++ List.replicate (4 - (lg_sl ([.ref (h 0), .int time])).length) Slot.unset).toArray = ls at hl ⊢
        have hl : lv_has ls 4 [(0, .ref (h 0)), (1, .int time)] := hl
        have hinX5 : ∀ w ∈ wsX50, w ∈ wsX5_tryLetter := fun _ h => List.mem_cons_of_mem _ (List.mem_append_right _ h)
        have hP : va_P D vwCl (zWM cI cJ cZ h th (n, L) ((zcb kt pt), (zcb km pm), (zcb kl pl)) mc (run, wc, nu, lc, le, af, tr, 0, cl, tm) (co, yn, yh, pa) ++ R) s.heap := hP
        have hD : va_D (zAb B) (zWM cI cJ cZ h th (n, L) ((zcb kt pt), (zcb km pm), (zcb kl pl)) mc (run, wc, nu, lc, le, af, tr, 0, cl, tm) (co, yn, yh, pa) ++ R) := hD
        have hb1 := ho1 rfl
        have hf : tr + 1 = lc := hf
        refine lv_aload_n hx hb dX5_tryLetter_0 rfl (lv_at hl 0 rfl) ?_
        refine va_get (ci := 5) (v := .int 0) (C := RX5) (T := TX5) (N := 20) hx hb hts hinX5 hown hK hP 0 rfl rfl 14 (by decide) (hts (.fieldLink RX5 113 "TypingTutorModel" "slips" "I") (List.mem_of_getElem? (i := 1) rfl)) (fun _ h9 => h9) rfl dX5_tryLetter_1 ?_
        refine lv_if_ne (tgt := 11) hx hb dX5_tryLetter_4 (by decide) (fun c_1 => ?_) (fun c_1 => ?_)
        · skip
          exfalso; first | omega | (revert c_1; decide) | (exact absurd rfl c_1) | simp_all
        · skip
          refine lv_iconst (v := 1) hx hb dX5_tryLetter_7 (by decide) ?_
          refine lv_goto (tgt := 12) hx hb dX5_tryLetter_8 (by decide) ?_
          refine lv_istore_n (lv' := [(2, .int 1), (0, .ref (h 0)), (1, .int time)]) hx hb dX5_tryLetter_12 rfl hl (by decide) rfl (fun ls hl => ?_)
          refine lv_iload_n hx hb dX5_tryLetter_13 rfl (lv_at hl 0 rfl) ?_
          refine lv_if_eq (tgt := 31) hx hb dX5_tryLetter_14 (by decide) (fun c_2 => ?_) (fun c_2 => ?_)
          · skip
            exfalso; first | omega | (revert c_2; decide) | (exact absurd rfl c_2) | simp_all
          · skip
            refine lv_iconst (v := 0) hx hb dX5_tryLetter_17 (by decide) ?_
            refine lv_sipush (v := 1000) hx hb dX5_tryLetter_18 (by decide) ?_
            refine lv_iload_n hx hb dX5_tryLetter_21 rfl (lv_at hl 2 rfl) ?_
            refine lv_iconst (v := 5) hx hb dX5_tryLetter_22 (by decide) ?_
            refine lv_idiv hx hb dX5_tryLetter_23 (by decide) ?_
            refine lv_isub hx hb dX5_tryLetter_24 ?_
            refine va_mmax hx hb (hml.trans hl.1.symm) hown (hts (.methodLink RX5 135 Lib.Math.max.name) (List.mem_of_getElem? (i := 2) rfl)) (hts (.static Lib.Math.max.name) (List.mem_of_getElem? (i := 3) rfl)) (hts (.initialized "java/lang/Math") (List.mem_of_getElem? (i := 4) rfl)) (hts (.code Lib.Math.max.name Lib.Math.max.code 2 (some .int)) (List.mem_of_getElem? (i := 5) rfl)) (Nat.le_of_ble_eq_true rfl) (Nat.le_of_ble_eq_true rfl) (Nat.le_of_ble_eq_true rfl) (Nat.le_of_ble_eq_true rfl) dX5_tryLetter_25 ?_
            refine lv_goto (tgt := 32) hx hb dX5_tryLetter_28 (by decide) ?_
            refine lv_istore_n (lv' := [(3, .int (if 0 < (1000 - (time / 5)) then (1000 - (time / 5)) else 0)), (2, .int 1), (0, .ref (h 0)), (1, .int time)]) hx hb dX5_tryLetter_32 rfl hl (by decide) rfl (fun ls hl => ?_)
            refine lv_aload_n hx hb dX5_tryLetter_33 rfl (lv_at hl 2 rfl) ?_
            refine lv_aload_n hx hb dX5_tryLetter_34 rfl (lv_at hl 2 rfl) ?_
            refine va_get (ci := 5) (v := .ref (h 7)) (C := RX5) (T := TX5) (N := 20) hx hb hts hinX5 hown hK hP 0 rfl rfl 11 (by decide) (hts (.fieldLink RX5 29 "TypingTutorModel" "text" "[I") (List.mem_of_getElem? (i := 6) rfl)) (fun _ h9 => h9) rfl dX5_tryLetter_35 ?_
            refine lv_aload_n hx hb dX5_tryLetter_38 rfl (lv_at hl 2 rfl) ?_
            refine va_get (ci := 5) (v := .int (nI tr)) (C := RX5) (T := TX5) (N := 20) hx hb hts hinX5 hown hK hP 0 rfl rfl 13 (by decide) (hts (.fieldLink RX5 110 "TypingTutorModel" "at" "I") (List.mem_of_getElem? (i := 7) rfl)) (fun _ h9 => h9) rfl dX5_tryLetter_39 ?_
            refine va_iald hx hb hK hP 7 0 rfl rfl (vp_in_nI (n := tr) (N := 48) (by omega) (by omega)) dX5_tryLetter_42 ?_
            rw [pk_cl (x := (nI tr)) tr (rfl) (by omega)]
            refine lv_topi (fun v_3 ev_3 => ?_)
            obtain rfl : v_3 = (nI x) := ev_3.trans (hx9)
            refine lv_iload_n hx hb dX5_tryLetter_43 rfl (lv_at hl 1 rfl) ?_
            refine lv_iload_n hx hb dX5_tryLetter_44 rfl (lv_at hl 0 rfl) ?_
            refine zcv (zrV (As := [.int (nI x), .int 1, .int (if 0 < (1000 - (time / 5)) then (1000 - (time / 5)) else 0)]) (rest := []) ⟨hx, hb, hml, hown, hts⟩ (zV 0 hP hD hK hE hB hS rfl rfl) (c_X5_learn_k (k := x) (b := true) (by omega)) (cwV 3 hts gX5_tryLetter_X5_learn rfl rfl rfl hdv_X5_learn ⟨Nat.le_of_ble_eq_true rfl, Nat.le_of_ble_eq_true rfl⟩) rfl rfl hl.1 rfl (lv_room (Nat.le_of_ble_eq_true rfl)) dX5_tryLetter_45 ⟨Nat.le_of_ble_eq_true rfl, Nat.le_of_ble_eq_true rfl⟩) hS (fun H locs hP hD hS => ?_)
            have hP : va_P D vwCl (zWM cI cJ cZ h th (n, L) ((zcb (zkt kt x) pt), (zcb (zkm true km x) pm), (zcb (upd kl x (zlv (kl x) (if 0 < (1000 - (time / 5)) then (1000 - (time / 5)) else 0))) pl)) mc (run, wc, nu, lc, le, af, tr, 0, cl, tm) (co, yn, yh, pa) ++ R) _ := hP
            have hD : va_D (zAb B) (zWM cI cJ cZ h th (n, L) ((zcb (zkt kt x) pt), (zcb (zkm true km x) pm), (zcb (upd kl x (zlv (kl x) (if 0 < (1000 - (time / 5)) then (1000 - (time / 5)) else 0))) pl)) mc (run, wc, nu, lc, le, af, tr, 0, cl, tm) (co, yn, yh, pa) ++ R) := hD
            refine lv_aload_n hx hb dX5_tryLetter_48 rfl (lv_at hl 2 rfl) ?_
            refine va_get (ci := 5) (v := .ref (h 8)) (C := RX5) (T := TX5) (N := 20) hx hb hts hinX5 hown hK hP 0 rfl rfl 12 (by decide) (hts (.fieldLink RX5 32 "TypingTutorModel" "areFirst" "[Z") (List.mem_of_getElem? (i := 8) rfl)) (fun _ h9 => h9) rfl dX5_tryLetter_49 ?_
            refine lv_aload_n hx hb dX5_tryLetter_52 rfl (lv_at hl 2 rfl) ?_
            refine va_get (ci := 5) (v := .int (nI tr)) (C := RX5) (T := TX5) (N := 20) hx hb hts hinX5 hown hK hP 0 rfl rfl 13 (by decide) (hts (.fieldLink RX5 110 "TypingTutorModel" "at" "I") (List.mem_of_getElem? (i := 7) rfl)) (fun _ h9 => h9) rfl dX5_tryLetter_53 ?_
            refine va_zald hx hb hK hP 8 2 rfl rfl (vp_in_nI (n := tr) (N := 49) (by omega) (by omega)) dX5_tryLetter_56 ?_
            rw [pk_cl (x := (nI tr)) tr (rfl) (by omega)]
            refine lv_if_ne (tgt := 89) hx hb dX5_tryLetter_57 (by decide) (fun c_4 => ?_) (fun c_4 => ?_)
            · skip
              refine lv_aload_n hx hb dX5_tryLetter_89 rfl (lv_at hl 2 rfl) ?_
              refine lv_dup hx hb dX5_tryLetter_90 rfl ?_
              refine va_get (ci := 5) (v := .int (nI cl)) (C := RX5) (T := TX5) (N := 20) hx hb hts hinX5 hown hK hP 0 rfl rfl 15 (by decide) (hts (.fieldLink RX5 116 "TypingTutorModel" "clean" "I") (List.mem_of_getElem? (i := 9) rfl)) (fun _ h9 => h9) rfl dX5_tryLetter_91 ?_
              refine lv_iload_n hx hb dX5_tryLetter_94 rfl (lv_at hl 1 rfl) ?_
              refine lv_if_eq (tgt := 102) hx hb dX5_tryLetter_95 (by decide) (fun c_5 => ?_) (fun c_5 => ?_)
              · skip
                exfalso; first | omega | (revert c_5; decide) | (exact absurd rfl c_5) | simp_all
              · skip
                refine lv_iconst (v := 1) hx hb dX5_tryLetter_98 (by decide) ?_
                refine lv_goto (tgt := 103) hx hb dX5_tryLetter_99 (by decide) ?_
                refine lv_iadd hx hb dX5_tryLetter_103 ?_
                refine lv_topi (fun v_6 ev_6 => ?_)
                obtain rfl : v_6 = (nI (cl + 1)) := ev_6.trans (nI_add cl 1)
                refine va_put (ci := 5) (v := .int (nI (cl + 1))) (ty := .int) (C := RX5) (T := TX5) (N := 20) hx hb hts hinX5 tyX5 tyX5_ok nmX5 hown hK hP hD hS 0 rfl rfl 15 (by decide) (hts (.fieldLink RX5 116 "TypingTutorModel" "clean" "I") (List.mem_of_getElem? (i := 9) rfl)) (fun _ h9 => h9) rfl (by decide +kernel) rfl rfl (Nat.le_of_ble_eq_true rfl) dX5_tryLetter_104 (fun H locs hP hD hS => ?_)
                have hP : va_P D vwCl (zWM cI cJ cZ h th (n, L) ((zcb (zkt kt x) pt), (zcb (zkm true km x) pm), (zcb (upd kl x (zlv (kl x) (if 0 < (1000 - (time / 5)) then (1000 - (time / 5)) else 0))) pl)) mc (run, wc, nu, lc, le, af, tr, 0, (cl + 1), tm) (co, yn, yh, pa) ++ R) _ := hP
                have hD : va_D (zAb B) (zWM cI cJ cZ h th (n, L) ((zcb (zkt kt x) pt), (zcb (zkm true km x) pm), (zcb (upd kl x (zlv (kl x) (if 0 < (1000 - (time / 5)) then (1000 - (time / 5)) else 0))) pl)) mc (run, wc, nu, lc, le, af, tr, 0, (cl + 1), tm) (co, yn, yh, pa) ++ R) := hD
                refine lv_aload_n hx hb dX5_tryLetter_107 rfl (lv_at hl 2 rfl) ?_
                refine lv_iconst (v := 0) hx hb dX5_tryLetter_108 (by decide) ?_
                refine va_put (ci := 5) (v := .int 0) (ty := .int) (C := RX5) (T := TX5) (N := 20) hx hb hts hinX5 tyX5 tyX5_ok nmX5 hown hK hP hD hS 0 rfl rfl 14 (by decide) (hts (.fieldLink RX5 113 "TypingTutorModel" "slips" "I") (List.mem_of_getElem? (i := 1) rfl)) (fun _ h9 => h9) rfl (by decide +kernel) rfl rfl (Nat.le_of_ble_eq_true rfl) dX5_tryLetter_109 (fun H locs hP hD hS => ?_)
                have hP : va_P D vwCl (zWM cI cJ cZ h th (n, L) ((zcb (zkt kt x) pt), (zcb (zkm true km x) pm), (zcb (upd kl x (zlv (kl x) (if 0 < (1000 - (time / 5)) then (1000 - (time / 5)) else 0))) pl)) mc (run, wc, nu, lc, le, af, tr, 0, (cl + 1), tm) (co, yn, yh, pa) ++ R) _ := hP
                have hD : va_D (zAb B) (zWM cI cJ cZ h th (n, L) ((zcb (zkt kt x) pt), (zcb (zkm true km x) pm), (zcb (upd kl x (zlv (kl x) (if 0 < (1000 - (time / 5)) then (1000 - (time / 5)) else 0))) pl)) mc (run, wc, nu, lc, le, af, tr, 0, (cl + 1), tm) (co, yn, yh, pa) ++ R) := hD
                refine lv_aload_n hx hb dX5_tryLetter_112 rfl (lv_at hl 2 rfl) ?_
                refine lv_dup hx hb dX5_tryLetter_113 rfl ?_
                refine va_get (ci := 5) (v := .int (nI tr)) (C := RX5) (T := TX5) (N := 20) hx hb hts hinX5 hown hK hP 0 rfl rfl 13 (by decide) (hts (.fieldLink RX5 110 "TypingTutorModel" "at" "I") (List.mem_of_getElem? (i := 7) rfl)) (fun _ h9 => h9) rfl dX5_tryLetter_114 ?_
                refine lv_iconst (v := 1) hx hb dX5_tryLetter_117 (by decide) ?_
                refine lv_iadd hx hb dX5_tryLetter_118 ?_
                refine lv_topi (fun v_7 ev_7 => ?_)
                obtain rfl : v_7 = (nI (tr + 1)) := ev_7.trans (nI_add tr 1)
                refine va_put (ci := 5) (v := .int (nI (tr + 1))) (ty := .int) (C := RX5) (T := TX5) (N := 20) hx hb hts hinX5 tyX5 tyX5_ok nmX5 hown hK hP hD hS 0 rfl rfl 13 (by decide) (hts (.fieldLink RX5 110 "TypingTutorModel" "at" "I") (List.mem_of_getElem? (i := 7) rfl)) (fun _ h9 => h9) rfl (by decide +kernel) rfl rfl (Nat.le_of_ble_eq_true rfl) dX5_tryLetter_119 (fun H locs hP hD hS => ?_)
                have hP : va_P D vwCl (zWM cI cJ cZ h th (n, L) ((zcb (zkt kt x) pt), (zcb (zkm true km x) pm), (zcb (upd kl x (zlv (kl x) (if 0 < (1000 - (time / 5)) then (1000 - (time / 5)) else 0))) pl)) mc (run, wc, nu, lc, le, af, (tr + 1), 0, (cl + 1), tm) (co, yn, yh, pa) ++ R) _ := hP
                have hD : va_D (zAb B) (zWM cI cJ cZ h th (n, L) ((zcb (zkt kt x) pt), (zcb (zkm true km x) pm), (zcb (upd kl x (zlv (kl x) (if 0 < (1000 - (time / 5)) then (1000 - (time / 5)) else 0))) pl)) mc (run, wc, nu, lc, le, af, (tr + 1), 0, (cl + 1), tm) (co, yn, yh, pa) ++ R) := hD
                refine lv_aload_n hx hb dX5_tryLetter_122 rfl (lv_at hl 2 rfl) ?_
                refine va_get (ci := 5) (v := .int (nI (tr + 1))) (C := RX5) (T := TX5) (N := 20) hx hb hts hinX5 hown hK hP 0 rfl rfl 13 (by decide) (hts (.fieldLink RX5 110 "TypingTutorModel" "at" "I") (List.mem_of_getElem? (i := 7) rfl)) (fun _ h9 => h9) rfl dX5_tryLetter_123 ?_
                refine lv_aload_n hx hb dX5_tryLetter_126 rfl (lv_at hl 2 rfl) ?_
                refine va_get (ci := 5) (v := .int (nI lc)) (C := RX5) (T := TX5) (N := 20) hx hb hts hinX5 hown hK hP 0 rfl rfl 10 (by decide) (hts (.fieldLink RX5 103 "TypingTutorModel" "letters" "I") (List.mem_of_getElem? (i := 10) rfl)) (fun _ h9 => h9) rfl dX5_tryLetter_127 ?_
                refine lv_icmp_ne (tgt := 137) hx hb dX5_tryLetter_130 (by decide) (fun c_8 => ?_) (fun c_8 => ?_)
                · skip
                  have c_8 : ¬ (tr + 1) = lc := fun hh => c_8 ((nI_eq (a := (tr + 1)) (b := lc) (by omega) (by omega)).mpr hh)
                  omega
                · skip
                  have c_8 : (tr + 1) = lc := (nI_eq (a := (tr + 1)) (b := lc) (by omega) (by omega)).mp c_8
                  refine lv_aload_n hx hb dX5_tryLetter_133 rfl (lv_at hl 2 rfl) ?_
                  refine zcvh (zrV (As := []) (rest := []) ⟨hx, hb, hml, hown, hts⟩ (zV 0 hP hD hK hE hB hS rfl rfl) (c_X5_finish (g := g) (hg) (hco) (hyn) (hy12) (hlc) (by omega)) (cwV 0 hts gX5_tryLetter_X5_finish rfl rfl rfl hdv_X5_finish ⟨Nat.le_of_ble_eq_true rfl, Nat.le_of_ble_eq_true rfl⟩) rfl rfl hl.1 rfl (lv_room (Nat.le_of_ble_eq_true rfl)) dX5_tryLetter_134 ⟨Nat.le_of_ble_eq_true rfl, Nat.le_of_ble_eq_true rfl⟩) hS (fun q9 H locs hP hD hS => ?_)
                  have hP : va_P D vwCl (zWM cI cJ cZ (zh9 h q9) th (n, L) ((zcb (zkt kt x) pt), (zcb (zkm true km x) pm), (zcb (upd kl x (zlv (kl x) (if 0 < (1000 - (time / 5)) then (1000 - (time / 5)) else 0))) pl)) mc (false, wc, nu, lc, le, af, (tr + 1), 0, (cl + 1), tm) ((co + 1), (zyn g yn), (zh3 (zyh g yh yn) co lc (cl + 1) tm), (zpc pa lc (cl + 1))) ++ R) _ := hP
                  have hD : va_D (zAb B) (zWM cI cJ cZ (zh9 h q9) th (n, L) ((zcb (zkt kt x) pt), (zcb (zkm true km x) pm), (zcb (upd kl x (zlv (kl x) (if 0 < (1000 - (time / 5)) then (1000 - (time / 5)) else 0))) pl)) mc (false, wc, nu, lc, le, af, (tr + 1), 0, (cl + 1), tm) ((co + 1), (zyn g yn), (zh3 (zyh g yh yn) co lc (cl + 1) tm), (zpc pa lc (cl + 1))) ++ R) := hD
                  exact W.vret hx hb hr (fun t ht hW => ⟨⟨q9, rfl, trivial, by rw [ht]; exact hP, hD⟩, hS.F ht⟩) hS.2.2 dX5_tryLetter_137
            · skip
              exact absurd c_4 hb1
      | false =>
        refine Met.ofW (cc := cX5_tryLetter) (maxL := 4) (ret := none) (by decide) rfl ?_
        intro p e s m args below meth c s₁ B0 hml hv
        obtain ⟨rfl, hP, hD, hK, hE, hB⟩ := hv
        have hx := B0.exec
        have hb := B0.bytes
        have hr := B0.returns
        have hts := atoms_spec (ws := wsX5_tryLetter) B0.pre
        have hown : s.vm.findClass RX5 = some m.cls := findClass_of_methodNamed B0.named
        have hlocks := B0.notSynchronized
        have hA : ∀ q : Nat, s.heap.size ≤ q → zAb B q := fun q hq => Nat.le_trans hB hq
        have hS : va_S (zAb B) s.heap s.heap [] := va_S.rf
        have hgr : s.heap.size ≤ s.heap.size := Nat.le_refl _
        have hl := lv_entry ([.ref (h 0), .int time]) (n := 4) (Nat.le_of_ble_eq_true rfl)
        rw [lg_entry_eq]
        generalize (lg_sl ([.ref (h 0), .int time]) ++ List.replicate (4 - (lg_sl ([.ref (h 0), .int time])).length) Slot.unset).toArray = ls at hl ⊢
        have hl : lv_has ls 4 [(0, .ref (h 0)), (1, .int time)] := hl
        have hinX5 : ∀ w ∈ wsX50, w ∈ wsX5_tryLetter := fun _ h => List.mem_cons_of_mem _ (List.mem_append_right _ h)
        have hP : va_P D vwCl (zWM cI cJ cZ h th (n, L) ((zcb kt pt), (zcb km pm), (zcb kl pl)) mc (run, wc, nu, lc, le, af, tr, 0, cl, tm) (co, yn, yh, pa) ++ R) s.heap := hP
        have hD : va_D (zAb B) (zWM cI cJ cZ h th (n, L) ((zcb kt pt), (zcb km pm), (zcb kl pl)) mc (run, wc, nu, lc, le, af, tr, 0, cl, tm) (co, yn, yh, pa) ++ R) := hD
        have hb1 := ho1 rfl
        have hf : tr + 1 < lc := hf
        refine lv_aload_n hx hb dX5_tryLetter_0 rfl (lv_at hl 0 rfl) ?_
        refine va_get (ci := 5) (v := .int 0) (C := RX5) (T := TX5) (N := 20) hx hb hts hinX5 hown hK hP 0 rfl rfl 14 (by decide) (hts (.fieldLink RX5 113 "TypingTutorModel" "slips" "I") (List.mem_of_getElem? (i := 1) rfl)) (fun _ h9 => h9) rfl dX5_tryLetter_1 ?_
        refine lv_if_ne (tgt := 11) hx hb dX5_tryLetter_4 (by decide) (fun c_9 => ?_) (fun c_9 => ?_)
        · skip
          exfalso; first | omega | (revert c_9; decide) | (exact absurd rfl c_9) | simp_all
        · skip
          refine lv_iconst (v := 1) hx hb dX5_tryLetter_7 (by decide) ?_
          refine lv_goto (tgt := 12) hx hb dX5_tryLetter_8 (by decide) ?_
          refine lv_istore_n (lv' := [(2, .int 1), (0, .ref (h 0)), (1, .int time)]) hx hb dX5_tryLetter_12 rfl hl (by decide) rfl (fun ls hl => ?_)
          refine lv_iload_n hx hb dX5_tryLetter_13 rfl (lv_at hl 0 rfl) ?_
          refine lv_if_eq (tgt := 31) hx hb dX5_tryLetter_14 (by decide) (fun c_10 => ?_) (fun c_10 => ?_)
          · skip
            exfalso; first | omega | (revert c_10; decide) | (exact absurd rfl c_10) | simp_all
          · skip
            refine lv_iconst (v := 0) hx hb dX5_tryLetter_17 (by decide) ?_
            refine lv_sipush (v := 1000) hx hb dX5_tryLetter_18 (by decide) ?_
            refine lv_iload_n hx hb dX5_tryLetter_21 rfl (lv_at hl 2 rfl) ?_
            refine lv_iconst (v := 5) hx hb dX5_tryLetter_22 (by decide) ?_
            refine lv_idiv hx hb dX5_tryLetter_23 (by decide) ?_
            refine lv_isub hx hb dX5_tryLetter_24 ?_
            refine va_mmax hx hb (hml.trans hl.1.symm) hown (hts (.methodLink RX5 135 Lib.Math.max.name) (List.mem_of_getElem? (i := 2) rfl)) (hts (.static Lib.Math.max.name) (List.mem_of_getElem? (i := 3) rfl)) (hts (.initialized "java/lang/Math") (List.mem_of_getElem? (i := 4) rfl)) (hts (.code Lib.Math.max.name Lib.Math.max.code 2 (some .int)) (List.mem_of_getElem? (i := 5) rfl)) (Nat.le_of_ble_eq_true rfl) (Nat.le_of_ble_eq_true rfl) (Nat.le_of_ble_eq_true rfl) (Nat.le_of_ble_eq_true rfl) dX5_tryLetter_25 ?_
            refine lv_goto (tgt := 32) hx hb dX5_tryLetter_28 (by decide) ?_
            refine lv_istore_n (lv' := [(3, .int (if 0 < (1000 - (time / 5)) then (1000 - (time / 5)) else 0)), (2, .int 1), (0, .ref (h 0)), (1, .int time)]) hx hb dX5_tryLetter_32 rfl hl (by decide) rfl (fun ls hl => ?_)
            refine lv_aload_n hx hb dX5_tryLetter_33 rfl (lv_at hl 2 rfl) ?_
            refine lv_aload_n hx hb dX5_tryLetter_34 rfl (lv_at hl 2 rfl) ?_
            refine va_get (ci := 5) (v := .ref (h 7)) (C := RX5) (T := TX5) (N := 20) hx hb hts hinX5 hown hK hP 0 rfl rfl 11 (by decide) (hts (.fieldLink RX5 29 "TypingTutorModel" "text" "[I") (List.mem_of_getElem? (i := 6) rfl)) (fun _ h9 => h9) rfl dX5_tryLetter_35 ?_
            refine lv_aload_n hx hb dX5_tryLetter_38 rfl (lv_at hl 2 rfl) ?_
            refine va_get (ci := 5) (v := .int (nI tr)) (C := RX5) (T := TX5) (N := 20) hx hb hts hinX5 hown hK hP 0 rfl rfl 13 (by decide) (hts (.fieldLink RX5 110 "TypingTutorModel" "at" "I") (List.mem_of_getElem? (i := 7) rfl)) (fun _ h9 => h9) rfl dX5_tryLetter_39 ?_
            refine va_iald hx hb hK hP 7 0 rfl rfl (vp_in_nI (n := tr) (N := 48) (by omega) (by omega)) dX5_tryLetter_42 ?_
            rw [pk_cl (x := (nI tr)) tr (rfl) (by omega)]
            refine lv_topi (fun v_11 ev_11 => ?_)
            obtain rfl : v_11 = (nI x) := ev_11.trans (hx9)
            refine lv_iload_n hx hb dX5_tryLetter_43 rfl (lv_at hl 1 rfl) ?_
            refine lv_iload_n hx hb dX5_tryLetter_44 rfl (lv_at hl 0 rfl) ?_
            refine zcv (zrV (As := [.int (nI x), .int 1, .int (if 0 < (1000 - (time / 5)) then (1000 - (time / 5)) else 0)]) (rest := []) ⟨hx, hb, hml, hown, hts⟩ (zV 0 hP hD hK hE hB hS rfl rfl) (c_X5_learn_k (k := x) (b := true) (by omega)) (cwV 3 hts gX5_tryLetter_X5_learn rfl rfl rfl hdv_X5_learn ⟨Nat.le_of_ble_eq_true rfl, Nat.le_of_ble_eq_true rfl⟩) rfl rfl hl.1 rfl (lv_room (Nat.le_of_ble_eq_true rfl)) dX5_tryLetter_45 ⟨Nat.le_of_ble_eq_true rfl, Nat.le_of_ble_eq_true rfl⟩) hS (fun H locs hP hD hS => ?_)
            have hP : va_P D vwCl (zWM cI cJ cZ h th (n, L) ((zcb (zkt kt x) pt), (zcb (zkm true km x) pm), (zcb (upd kl x (zlv (kl x) (if 0 < (1000 - (time / 5)) then (1000 - (time / 5)) else 0))) pl)) mc (run, wc, nu, lc, le, af, tr, 0, cl, tm) (co, yn, yh, pa) ++ R) _ := hP
            have hD : va_D (zAb B) (zWM cI cJ cZ h th (n, L) ((zcb (zkt kt x) pt), (zcb (zkm true km x) pm), (zcb (upd kl x (zlv (kl x) (if 0 < (1000 - (time / 5)) then (1000 - (time / 5)) else 0))) pl)) mc (run, wc, nu, lc, le, af, tr, 0, cl, tm) (co, yn, yh, pa) ++ R) := hD
            refine lv_aload_n hx hb dX5_tryLetter_48 rfl (lv_at hl 2 rfl) ?_
            refine va_get (ci := 5) (v := .ref (h 8)) (C := RX5) (T := TX5) (N := 20) hx hb hts hinX5 hown hK hP 0 rfl rfl 12 (by decide) (hts (.fieldLink RX5 32 "TypingTutorModel" "areFirst" "[Z") (List.mem_of_getElem? (i := 8) rfl)) (fun _ h9 => h9) rfl dX5_tryLetter_49 ?_
            refine lv_aload_n hx hb dX5_tryLetter_52 rfl (lv_at hl 2 rfl) ?_
            refine va_get (ci := 5) (v := .int (nI tr)) (C := RX5) (T := TX5) (N := 20) hx hb hts hinX5 hown hK hP 0 rfl rfl 13 (by decide) (hts (.fieldLink RX5 110 "TypingTutorModel" "at" "I") (List.mem_of_getElem? (i := 7) rfl)) (fun _ h9 => h9) rfl dX5_tryLetter_53 ?_
            refine va_zald hx hb hK hP 8 2 rfl rfl (vp_in_nI (n := tr) (N := 49) (by omega) (by omega)) dX5_tryLetter_56 ?_
            rw [pk_cl (x := (nI tr)) tr (rfl) (by omega)]
            refine lv_if_ne (tgt := 89) hx hb dX5_tryLetter_57 (by decide) (fun c_12 => ?_) (fun c_12 => ?_)
            · skip
              refine lv_aload_n hx hb dX5_tryLetter_89 rfl (lv_at hl 2 rfl) ?_
              refine lv_dup hx hb dX5_tryLetter_90 rfl ?_
              refine va_get (ci := 5) (v := .int (nI cl)) (C := RX5) (T := TX5) (N := 20) hx hb hts hinX5 hown hK hP 0 rfl rfl 15 (by decide) (hts (.fieldLink RX5 116 "TypingTutorModel" "clean" "I") (List.mem_of_getElem? (i := 9) rfl)) (fun _ h9 => h9) rfl dX5_tryLetter_91 ?_
              refine lv_iload_n hx hb dX5_tryLetter_94 rfl (lv_at hl 1 rfl) ?_
              refine lv_if_eq (tgt := 102) hx hb dX5_tryLetter_95 (by decide) (fun c_13 => ?_) (fun c_13 => ?_)
              · skip
                exfalso; first | omega | (revert c_13; decide) | (exact absurd rfl c_13) | simp_all
              · skip
                refine lv_iconst (v := 1) hx hb dX5_tryLetter_98 (by decide) ?_
                refine lv_goto (tgt := 103) hx hb dX5_tryLetter_99 (by decide) ?_
                refine lv_iadd hx hb dX5_tryLetter_103 ?_
                refine lv_topi (fun v_14 ev_14 => ?_)
                obtain rfl : v_14 = (nI (cl + 1)) := ev_14.trans (nI_add cl 1)
                refine va_put (ci := 5) (v := .int (nI (cl + 1))) (ty := .int) (C := RX5) (T := TX5) (N := 20) hx hb hts hinX5 tyX5 tyX5_ok nmX5 hown hK hP hD hS 0 rfl rfl 15 (by decide) (hts (.fieldLink RX5 116 "TypingTutorModel" "clean" "I") (List.mem_of_getElem? (i := 9) rfl)) (fun _ h9 => h9) rfl (by decide +kernel) rfl rfl (Nat.le_of_ble_eq_true rfl) dX5_tryLetter_104 (fun H locs hP hD hS => ?_)
                have hP : va_P D vwCl (zWM cI cJ cZ h th (n, L) ((zcb (zkt kt x) pt), (zcb (zkm true km x) pm), (zcb (upd kl x (zlv (kl x) (if 0 < (1000 - (time / 5)) then (1000 - (time / 5)) else 0))) pl)) mc (run, wc, nu, lc, le, af, tr, 0, (cl + 1), tm) (co, yn, yh, pa) ++ R) _ := hP
                have hD : va_D (zAb B) (zWM cI cJ cZ h th (n, L) ((zcb (zkt kt x) pt), (zcb (zkm true km x) pm), (zcb (upd kl x (zlv (kl x) (if 0 < (1000 - (time / 5)) then (1000 - (time / 5)) else 0))) pl)) mc (run, wc, nu, lc, le, af, tr, 0, (cl + 1), tm) (co, yn, yh, pa) ++ R) := hD
                refine lv_aload_n hx hb dX5_tryLetter_107 rfl (lv_at hl 2 rfl) ?_
                refine lv_iconst (v := 0) hx hb dX5_tryLetter_108 (by decide) ?_
                refine va_put (ci := 5) (v := .int 0) (ty := .int) (C := RX5) (T := TX5) (N := 20) hx hb hts hinX5 tyX5 tyX5_ok nmX5 hown hK hP hD hS 0 rfl rfl 14 (by decide) (hts (.fieldLink RX5 113 "TypingTutorModel" "slips" "I") (List.mem_of_getElem? (i := 1) rfl)) (fun _ h9 => h9) rfl (by decide +kernel) rfl rfl (Nat.le_of_ble_eq_true rfl) dX5_tryLetter_109 (fun H locs hP hD hS => ?_)
                have hP : va_P D vwCl (zWM cI cJ cZ h th (n, L) ((zcb (zkt kt x) pt), (zcb (zkm true km x) pm), (zcb (upd kl x (zlv (kl x) (if 0 < (1000 - (time / 5)) then (1000 - (time / 5)) else 0))) pl)) mc (run, wc, nu, lc, le, af, tr, 0, (cl + 1), tm) (co, yn, yh, pa) ++ R) _ := hP
                have hD : va_D (zAb B) (zWM cI cJ cZ h th (n, L) ((zcb (zkt kt x) pt), (zcb (zkm true km x) pm), (zcb (upd kl x (zlv (kl x) (if 0 < (1000 - (time / 5)) then (1000 - (time / 5)) else 0))) pl)) mc (run, wc, nu, lc, le, af, tr, 0, (cl + 1), tm) (co, yn, yh, pa) ++ R) := hD
                refine lv_aload_n hx hb dX5_tryLetter_112 rfl (lv_at hl 2 rfl) ?_
                refine lv_dup hx hb dX5_tryLetter_113 rfl ?_
                refine va_get (ci := 5) (v := .int (nI tr)) (C := RX5) (T := TX5) (N := 20) hx hb hts hinX5 hown hK hP 0 rfl rfl 13 (by decide) (hts (.fieldLink RX5 110 "TypingTutorModel" "at" "I") (List.mem_of_getElem? (i := 7) rfl)) (fun _ h9 => h9) rfl dX5_tryLetter_114 ?_
                refine lv_iconst (v := 1) hx hb dX5_tryLetter_117 (by decide) ?_
                refine lv_iadd hx hb dX5_tryLetter_118 ?_
                refine lv_topi (fun v_15 ev_15 => ?_)
                obtain rfl : v_15 = (nI (tr + 1)) := ev_15.trans (nI_add tr 1)
                refine va_put (ci := 5) (v := .int (nI (tr + 1))) (ty := .int) (C := RX5) (T := TX5) (N := 20) hx hb hts hinX5 tyX5 tyX5_ok nmX5 hown hK hP hD hS 0 rfl rfl 13 (by decide) (hts (.fieldLink RX5 110 "TypingTutorModel" "at" "I") (List.mem_of_getElem? (i := 7) rfl)) (fun _ h9 => h9) rfl (by decide +kernel) rfl rfl (Nat.le_of_ble_eq_true rfl) dX5_tryLetter_119 (fun H locs hP hD hS => ?_)
                have hP : va_P D vwCl (zWM cI cJ cZ h th (n, L) ((zcb (zkt kt x) pt), (zcb (zkm true km x) pm), (zcb (upd kl x (zlv (kl x) (if 0 < (1000 - (time / 5)) then (1000 - (time / 5)) else 0))) pl)) mc (run, wc, nu, lc, le, af, (tr + 1), 0, (cl + 1), tm) (co, yn, yh, pa) ++ R) _ := hP
                have hD : va_D (zAb B) (zWM cI cJ cZ h th (n, L) ((zcb (zkt kt x) pt), (zcb (zkm true km x) pm), (zcb (upd kl x (zlv (kl x) (if 0 < (1000 - (time / 5)) then (1000 - (time / 5)) else 0))) pl)) mc (run, wc, nu, lc, le, af, (tr + 1), 0, (cl + 1), tm) (co, yn, yh, pa) ++ R) := hD
                refine lv_aload_n hx hb dX5_tryLetter_122 rfl (lv_at hl 2 rfl) ?_
                refine va_get (ci := 5) (v := .int (nI (tr + 1))) (C := RX5) (T := TX5) (N := 20) hx hb hts hinX5 hown hK hP 0 rfl rfl 13 (by decide) (hts (.fieldLink RX5 110 "TypingTutorModel" "at" "I") (List.mem_of_getElem? (i := 7) rfl)) (fun _ h9 => h9) rfl dX5_tryLetter_123 ?_
                refine lv_aload_n hx hb dX5_tryLetter_126 rfl (lv_at hl 2 rfl) ?_
                refine va_get (ci := 5) (v := .int (nI lc)) (C := RX5) (T := TX5) (N := 20) hx hb hts hinX5 hown hK hP 0 rfl rfl 10 (by decide) (hts (.fieldLink RX5 103 "TypingTutorModel" "letters" "I") (List.mem_of_getElem? (i := 10) rfl)) (fun _ h9 => h9) rfl dX5_tryLetter_127 ?_
                refine lv_icmp_ne (tgt := 137) hx hb dX5_tryLetter_130 (by decide) (fun c_16 => ?_) (fun c_16 => ?_)
                · skip
                  have c_16 : ¬ (tr + 1) = lc := fun hh => c_16 ((nI_eq (a := (tr + 1)) (b := lc) (by omega) (by omega)).mpr hh)
                  refine W.widen (k := 1) (n := 1536) (Nat.le_of_ble_eq_true rfl) (Nat.le_of_ble_eq_true rfl) ?_
                  exact W.vret hx hb hr (fun t ht hW => ⟨⟨(h 9), rfl, trivial, by rw [ht]; exact hP, hD⟩, hS.F ht⟩) hS.2.2 dX5_tryLetter_137
                · skip
                  have c_16 : (tr + 1) = lc := (nI_eq (a := (tr + 1)) (b := lc) (by omega) (by omega)).mp c_16
                  omega
            · skip
              exact absurd c_12 hb1
    | some o9 =>
      cases fin with
      | true =>
        refine Met.ofW (cc := cX5_tryLetter) (maxL := 4) (ret := none) (by decide) rfl ?_
        intro p e s m args below meth c s₁ B0 hml hv
        obtain ⟨rfl, hP, hD, hK, hE, hB⟩ := hv
        have hx := B0.exec
        have hb := B0.bytes
        have hr := B0.returns
        have hts := atoms_spec (ws := wsX5_tryLetter) B0.pre
        have hown : s.vm.findClass RX5 = some m.cls := findClass_of_methodNamed B0.named
        have hlocks := B0.notSynchronized
        have hA : ∀ q : Nat, s.heap.size ≤ q → zAb B q := fun q hq => Nat.le_trans hB hq
        have hS : va_S (zAb B) s.heap s.heap [] := va_S.rf
        have hgr : s.heap.size ≤ s.heap.size := Nat.le_refl _
        have hl := lv_entry ([.ref (h 0), .int time]) (n := 4) (Nat.le_of_ble_eq_true rfl)
        rw [lg_entry_eq]
        generalize (lg_sl ([.ref (h 0), .int time]) ++ List.replicate (4 - (lg_sl ([.ref (h 0), .int time])).length) Slot.unset).toArray = ls at hl ⊢
        have hl : lv_has ls 4 [(0, .ref (h 0)), (1, .int time)] := hl
        have hinX5 : ∀ w ∈ wsX50, w ∈ wsX5_tryLetter := fun _ h => List.mem_cons_of_mem _ (List.mem_append_right _ h)
        have hP : va_P D vwCl (zWM cI cJ cZ h th (n, L) ((zcb kt pt), (zcb km pm), (zcb kl pl)) mc (run, wc, nu, lc, le, af, tr, 0, cl, tm) (co, yn, yh, pa) ++ R) s.heap := hP
        have hD : va_D (zAb B) (zWM cI cJ cZ h th (n, L) ((zcb kt pt), (zcb km pm), (zcb kl pl)) mc (run, wc, nu, lc, le, af, tr, 0, cl, tm) (co, yn, yh, pa) ++ R) := hD
        obtain ⟨hb1, hb2, hb3, hy⟩ := ho2 o9 rfl
        have hf : tr + 1 = lc := hf
        refine lv_aload_n hx hb dX5_tryLetter_0 rfl (lv_at hl 0 rfl) ?_
        refine va_get (ci := 5) (v := .int 0) (C := RX5) (T := TX5) (N := 20) hx hb hts hinX5 hown hK hP 0 rfl rfl 14 (by decide) (hts (.fieldLink RX5 113 "TypingTutorModel" "slips" "I") (List.mem_of_getElem? (i := 1) rfl)) (fun _ h9 => h9) rfl dX5_tryLetter_1 ?_
        refine lv_if_ne (tgt := 11) hx hb dX5_tryLetter_4 (by decide) (fun c_17 => ?_) (fun c_17 => ?_)
        · skip
          exfalso; first | omega | (revert c_17; decide) | (exact absurd rfl c_17) | simp_all
        · skip
          refine lv_iconst (v := 1) hx hb dX5_tryLetter_7 (by decide) ?_
          refine lv_goto (tgt := 12) hx hb dX5_tryLetter_8 (by decide) ?_
          refine lv_istore_n (lv' := [(2, .int 1), (0, .ref (h 0)), (1, .int time)]) hx hb dX5_tryLetter_12 rfl hl (by decide) rfl (fun ls hl => ?_)
          refine lv_iload_n hx hb dX5_tryLetter_13 rfl (lv_at hl 0 rfl) ?_
          refine lv_if_eq (tgt := 31) hx hb dX5_tryLetter_14 (by decide) (fun c_18 => ?_) (fun c_18 => ?_)
          · skip
            exfalso; first | omega | (revert c_18; decide) | (exact absurd rfl c_18) | simp_all
          · skip
            refine lv_iconst (v := 0) hx hb dX5_tryLetter_17 (by decide) ?_
            refine lv_sipush (v := 1000) hx hb dX5_tryLetter_18 (by decide) ?_
            refine lv_iload_n hx hb dX5_tryLetter_21 rfl (lv_at hl 2 rfl) ?_
            refine lv_iconst (v := 5) hx hb dX5_tryLetter_22 (by decide) ?_
            refine lv_idiv hx hb dX5_tryLetter_23 (by decide) ?_
            refine lv_isub hx hb dX5_tryLetter_24 ?_
            refine va_mmax hx hb (hml.trans hl.1.symm) hown (hts (.methodLink RX5 135 Lib.Math.max.name) (List.mem_of_getElem? (i := 2) rfl)) (hts (.static Lib.Math.max.name) (List.mem_of_getElem? (i := 3) rfl)) (hts (.initialized "java/lang/Math") (List.mem_of_getElem? (i := 4) rfl)) (hts (.code Lib.Math.max.name Lib.Math.max.code 2 (some .int)) (List.mem_of_getElem? (i := 5) rfl)) (Nat.le_of_ble_eq_true rfl) (Nat.le_of_ble_eq_true rfl) (Nat.le_of_ble_eq_true rfl) (Nat.le_of_ble_eq_true rfl) dX5_tryLetter_25 ?_
            refine lv_goto (tgt := 32) hx hb dX5_tryLetter_28 (by decide) ?_
            refine lv_istore_n (lv' := [(3, .int (if 0 < (1000 - (time / 5)) then (1000 - (time / 5)) else 0)), (2, .int 1), (0, .ref (h 0)), (1, .int time)]) hx hb dX5_tryLetter_32 rfl hl (by decide) rfl (fun ls hl => ?_)
            refine lv_aload_n hx hb dX5_tryLetter_33 rfl (lv_at hl 2 rfl) ?_
            refine lv_aload_n hx hb dX5_tryLetter_34 rfl (lv_at hl 2 rfl) ?_
            refine va_get (ci := 5) (v := .ref (h 7)) (C := RX5) (T := TX5) (N := 20) hx hb hts hinX5 hown hK hP 0 rfl rfl 11 (by decide) (hts (.fieldLink RX5 29 "TypingTutorModel" "text" "[I") (List.mem_of_getElem? (i := 6) rfl)) (fun _ h9 => h9) rfl dX5_tryLetter_35 ?_
            refine lv_aload_n hx hb dX5_tryLetter_38 rfl (lv_at hl 2 rfl) ?_
            refine va_get (ci := 5) (v := .int (nI tr)) (C := RX5) (T := TX5) (N := 20) hx hb hts hinX5 hown hK hP 0 rfl rfl 13 (by decide) (hts (.fieldLink RX5 110 "TypingTutorModel" "at" "I") (List.mem_of_getElem? (i := 7) rfl)) (fun _ h9 => h9) rfl dX5_tryLetter_39 ?_
            refine va_iald hx hb hK hP 7 0 rfl rfl (vp_in_nI (n := tr) (N := 48) (by omega) (by omega)) dX5_tryLetter_42 ?_
            rw [pk_cl (x := (nI tr)) tr (rfl) (by omega)]
            refine lv_topi (fun v_19 ev_19 => ?_)
            obtain rfl : v_19 = (nI x) := ev_19.trans (hx9)
            refine lv_iload_n hx hb dX5_tryLetter_43 rfl (lv_at hl 1 rfl) ?_
            refine lv_iload_n hx hb dX5_tryLetter_44 rfl (lv_at hl 0 rfl) ?_
            refine zcv (zrV (As := [.int (nI x), .int 1, .int (if 0 < (1000 - (time / 5)) then (1000 - (time / 5)) else 0)]) (rest := []) ⟨hx, hb, hml, hown, hts⟩ (zV 0 hP hD hK hE hB hS rfl rfl) (c_X5_learn_k (k := x) (b := true) (by omega)) (cwV 3 hts gX5_tryLetter_X5_learn rfl rfl rfl hdv_X5_learn ⟨Nat.le_of_ble_eq_true rfl, Nat.le_of_ble_eq_true rfl⟩) rfl rfl hl.1 rfl (lv_room (Nat.le_of_ble_eq_true rfl)) dX5_tryLetter_45 ⟨Nat.le_of_ble_eq_true rfl, Nat.le_of_ble_eq_true rfl⟩) hS (fun H locs hP hD hS => ?_)
            have hP : va_P D vwCl (zWM cI cJ cZ h th (n, L) ((zcb (zkt kt x) pt), (zcb (zkm true km x) pm), (zcb (upd kl x (zlv (kl x) (if 0 < (1000 - (time / 5)) then (1000 - (time / 5)) else 0))) pl)) mc (run, wc, nu, lc, le, af, tr, 0, cl, tm) (co, yn, yh, pa) ++ R) _ := hP
            have hD : va_D (zAb B) (zWM cI cJ cZ h th (n, L) ((zcb (zkt kt x) pt), (zcb (zkm true km x) pm), (zcb (upd kl x (zlv (kl x) (if 0 < (1000 - (time / 5)) then (1000 - (time / 5)) else 0))) pl)) mc (run, wc, nu, lc, le, af, tr, 0, cl, tm) (co, yn, yh, pa) ++ R) := hD
            refine lv_aload_n hx hb dX5_tryLetter_48 rfl (lv_at hl 2 rfl) ?_
            refine va_get (ci := 5) (v := .ref (h 8)) (C := RX5) (T := TX5) (N := 20) hx hb hts hinX5 hown hK hP 0 rfl rfl 12 (by decide) (hts (.fieldLink RX5 32 "TypingTutorModel" "areFirst" "[Z") (List.mem_of_getElem? (i := 8) rfl)) (fun _ h9 => h9) rfl dX5_tryLetter_49 ?_
            refine lv_aload_n hx hb dX5_tryLetter_52 rfl (lv_at hl 2 rfl) ?_
            refine va_get (ci := 5) (v := .int (nI tr)) (C := RX5) (T := TX5) (N := 20) hx hb hts hinX5 hown hK hP 0 rfl rfl 13 (by decide) (hts (.fieldLink RX5 110 "TypingTutorModel" "at" "I") (List.mem_of_getElem? (i := 7) rfl)) (fun _ h9 => h9) rfl dX5_tryLetter_53 ?_
            refine va_zald hx hb hK hP 8 2 rfl rfl (vp_in_nI (n := tr) (N := 49) (by omega) (by omega)) dX5_tryLetter_56 ?_
            rw [pk_cl (x := (nI tr)) tr (rfl) (by omega)]
            refine lv_if_ne (tgt := 89) hx hb dX5_tryLetter_57 (by decide) (fun c_20 => ?_) (fun c_20 => ?_)
            · skip
              exact absurd hb1 c_20
            · skip
              refine lv_aload_n hx hb dX5_tryLetter_60 rfl (lv_at hl 2 rfl) ?_
              refine lv_aload_n hx hb dX5_tryLetter_61 rfl (lv_at hl 2 rfl) ?_
              refine va_get (ci := 5) (v := .ref (h 7)) (C := RX5) (T := TX5) (N := 20) hx hb hts hinX5 hown hK hP 0 rfl rfl 11 (by decide) (hts (.fieldLink RX5 29 "TypingTutorModel" "text" "[I") (List.mem_of_getElem? (i := 6) rfl)) (fun _ h9 => h9) rfl dX5_tryLetter_62 ?_
              refine lv_aload_n hx hb dX5_tryLetter_65 rfl (lv_at hl 2 rfl) ?_
              refine va_get (ci := 5) (v := .int (nI tr)) (C := RX5) (T := TX5) (N := 20) hx hb hts hinX5 hown hK hP 0 rfl rfl 13 (by decide) (hts (.fieldLink RX5 110 "TypingTutorModel" "at" "I") (List.mem_of_getElem? (i := 7) rfl)) (fun _ h9 => h9) rfl dX5_tryLetter_66 ?_
              refine lv_iconst (v := 1) hx hb dX5_tryLetter_69 (by decide) ?_
              refine lv_isub hx hb dX5_tryLetter_70 ?_
              refine lv_topi (fun v_21 ev_21 => ?_)
              obtain rfl : v_21 = (nI (tr - 1)) := ev_21.trans (pk_sub (a := tr) (b := 1) (by omega))
              refine va_iald hx hb hK hP 7 0 rfl rfl (vp_in_nI (n := (tr - 1)) (N := 48) (by omega) (by omega)) dX5_tryLetter_71 ?_
              rw [pk_cl (x := (nI (tr - 1))) (tr - 1) (rfl) (by omega)]
              refine lv_topi (fun v_22 ev_22 => ?_)
              obtain rfl : v_22 = (nI o9) := ev_22.trans (hb3)
              refine lv_aload_n hx hb dX5_tryLetter_72 rfl (lv_at hl 2 rfl) ?_
              refine va_get (ci := 5) (v := .ref (h 7)) (C := RX5) (T := TX5) (N := 20) hx hb hts hinX5 hown hK hP 0 rfl rfl 11 (by decide) (hts (.fieldLink RX5 29 "TypingTutorModel" "text" "[I") (List.mem_of_getElem? (i := 6) rfl)) (fun _ h9 => h9) rfl dX5_tryLetter_73 ?_
              refine lv_aload_n hx hb dX5_tryLetter_76 rfl (lv_at hl 2 rfl) ?_
              refine va_get (ci := 5) (v := .int (nI tr)) (C := RX5) (T := TX5) (N := 20) hx hb hts hinX5 hown hK hP 0 rfl rfl 13 (by decide) (hts (.fieldLink RX5 110 "TypingTutorModel" "at" "I") (List.mem_of_getElem? (i := 7) rfl)) (fun _ h9 => h9) rfl dX5_tryLetter_77 ?_
              refine va_iald hx hb hK hP 7 0 rfl rfl (vp_in_nI (n := tr) (N := 48) (by omega) (by omega)) dX5_tryLetter_80 ?_
              rw [pk_cl (x := (nI tr)) tr (rfl) (by omega)]
              refine lv_topi (fun v_23 ev_23 => ?_)
              obtain rfl : v_23 = (nI x) := ev_23.trans (hx9)
              refine zci (zrS (As := [.int (nI o9), .int (nI x)]) (rest := [.ref (h 0)]) ⟨hx, hb, hml, hown, hts⟩ (zS hP hD hK hE hB hS) (c_X5_pairOf (a := o9) (b := x) ) (va_cwS 2 hts gX5_tryLetter_X5_pairOf rfl rfl rfl hds_X5_pairOf ⟨Nat.le_of_ble_eq_true rfl, Nat.le_of_ble_eq_true rfl⟩) rfl rfl hl.1 rfl (lv_room (Nat.le_of_ble_eq_true rfl)) dX5_tryLetter_81 ⟨Nat.le_of_ble_eq_true rfl, Nat.le_of_ble_eq_true rfl⟩) hS (fun H locs hP hD hS => ?_)
              have hP : va_P D vwCl (zWM cI cJ cZ h th (n, L) ((zcb (zkt kt x) pt), (zcb (zkm true km x) pm), (zcb (upd kl x (zlv (kl x) (if 0 < (1000 - (time / 5)) then (1000 - (time / 5)) else 0))) pl)) mc (run, wc, nu, lc, le, af, tr, 0, cl, tm) (co, yn, yh, pa) ++ R) _ := hP
              have hD : va_D (zAb B) (zWM cI cJ cZ h th (n, L) ((zcb (zkt kt x) pt), (zcb (zkm true km x) pm), (zcb (upd kl x (zlv (kl x) (if 0 < (1000 - (time / 5)) then (1000 - (time / 5)) else 0))) pl)) mc (run, wc, nu, lc, le, af, tr, 0, cl, tm) (co, yn, yh, pa) ++ R) := hD
              refine lv_iload_n hx hb dX5_tryLetter_84 rfl (lv_at hl 1 rfl) ?_
              refine lv_iload_n hx hb dX5_tryLetter_85 rfl (lv_at hl 0 rfl) ?_
              refine zcv (zrV (As := [.int (nI (26 + (26 * o9 + x))), .int 1, .int (if 0 < (1000 - (time / 5)) then (1000 - (time / 5)) else 0)]) (rest := []) ⟨hx, hb, hml, hown, hts⟩ (zV 0 hP hD hK hE hB hS rfl rfl) (c_X5_learn_p (b := true) (k := (26 * o9 + x)) (by omega)) (cwV 3 hts gX5_tryLetter_X5_learn rfl rfl rfl hdv_X5_learn ⟨Nat.le_of_ble_eq_true rfl, Nat.le_of_ble_eq_true rfl⟩) rfl rfl hl.1 rfl (lv_room (Nat.le_of_ble_eq_true rfl)) dX5_tryLetter_86 ⟨Nat.le_of_ble_eq_true rfl, Nat.le_of_ble_eq_true rfl⟩) hS (fun H locs hP hD hS => ?_)
              have hP : va_P D vwCl (zWM cI cJ cZ h th (n, L) ((zcb (zkt kt x) (zkt pt (26 * o9 + x))), (zcb (zkm true km x) (zkm true pm (26 * o9 + x))), (zcb (upd kl x (zlv (kl x) (if 0 < (1000 - (time / 5)) then (1000 - (time / 5)) else 0))) (upd pl (26 * o9 + x) (zlv (pl (26 * o9 + x)) (if 0 < (1000 - (time / 5)) then (1000 - (time / 5)) else 0))))) mc (run, wc, nu, lc, le, af, tr, 0, cl, tm) (co, yn, yh, pa) ++ R) _ := hP
              have hD : va_D (zAb B) (zWM cI cJ cZ h th (n, L) ((zcb (zkt kt x) (zkt pt (26 * o9 + x))), (zcb (zkm true km x) (zkm true pm (26 * o9 + x))), (zcb (upd kl x (zlv (kl x) (if 0 < (1000 - (time / 5)) then (1000 - (time / 5)) else 0))) (upd pl (26 * o9 + x) (zlv (pl (26 * o9 + x)) (if 0 < (1000 - (time / 5)) then (1000 - (time / 5)) else 0))))) mc (run, wc, nu, lc, le, af, tr, 0, cl, tm) (co, yn, yh, pa) ++ R) := hD
              refine lv_aload_n hx hb dX5_tryLetter_89 rfl (lv_at hl 2 rfl) ?_
              refine lv_dup hx hb dX5_tryLetter_90 rfl ?_
              refine va_get (ci := 5) (v := .int (nI cl)) (C := RX5) (T := TX5) (N := 20) hx hb hts hinX5 hown hK hP 0 rfl rfl 15 (by decide) (hts (.fieldLink RX5 116 "TypingTutorModel" "clean" "I") (List.mem_of_getElem? (i := 9) rfl)) (fun _ h9 => h9) rfl dX5_tryLetter_91 ?_
              refine lv_iload_n hx hb dX5_tryLetter_94 rfl (lv_at hl 1 rfl) ?_
              refine lv_if_eq (tgt := 102) hx hb dX5_tryLetter_95 (by decide) (fun c_24 => ?_) (fun c_24 => ?_)
              · skip
                exfalso; first | omega | (revert c_24; decide) | (exact absurd rfl c_24) | simp_all
              · skip
                refine lv_iconst (v := 1) hx hb dX5_tryLetter_98 (by decide) ?_
                refine lv_goto (tgt := 103) hx hb dX5_tryLetter_99 (by decide) ?_
                refine lv_iadd hx hb dX5_tryLetter_103 ?_
                refine lv_topi (fun v_25 ev_25 => ?_)
                obtain rfl : v_25 = (nI (cl + 1)) := ev_25.trans (nI_add cl 1)
                refine va_put (ci := 5) (v := .int (nI (cl + 1))) (ty := .int) (C := RX5) (T := TX5) (N := 20) hx hb hts hinX5 tyX5 tyX5_ok nmX5 hown hK hP hD hS 0 rfl rfl 15 (by decide) (hts (.fieldLink RX5 116 "TypingTutorModel" "clean" "I") (List.mem_of_getElem? (i := 9) rfl)) (fun _ h9 => h9) rfl (by decide +kernel) rfl rfl (Nat.le_of_ble_eq_true rfl) dX5_tryLetter_104 (fun H locs hP hD hS => ?_)
                have hP : va_P D vwCl (zWM cI cJ cZ h th (n, L) ((zcb (zkt kt x) (zkt pt (26 * o9 + x))), (zcb (zkm true km x) (zkm true pm (26 * o9 + x))), (zcb (upd kl x (zlv (kl x) (if 0 < (1000 - (time / 5)) then (1000 - (time / 5)) else 0))) (upd pl (26 * o9 + x) (zlv (pl (26 * o9 + x)) (if 0 < (1000 - (time / 5)) then (1000 - (time / 5)) else 0))))) mc (run, wc, nu, lc, le, af, tr, 0, (cl + 1), tm) (co, yn, yh, pa) ++ R) _ := hP
                have hD : va_D (zAb B) (zWM cI cJ cZ h th (n, L) ((zcb (zkt kt x) (zkt pt (26 * o9 + x))), (zcb (zkm true km x) (zkm true pm (26 * o9 + x))), (zcb (upd kl x (zlv (kl x) (if 0 < (1000 - (time / 5)) then (1000 - (time / 5)) else 0))) (upd pl (26 * o9 + x) (zlv (pl (26 * o9 + x)) (if 0 < (1000 - (time / 5)) then (1000 - (time / 5)) else 0))))) mc (run, wc, nu, lc, le, af, tr, 0, (cl + 1), tm) (co, yn, yh, pa) ++ R) := hD
                refine lv_aload_n hx hb dX5_tryLetter_107 rfl (lv_at hl 2 rfl) ?_
                refine lv_iconst (v := 0) hx hb dX5_tryLetter_108 (by decide) ?_
                refine va_put (ci := 5) (v := .int 0) (ty := .int) (C := RX5) (T := TX5) (N := 20) hx hb hts hinX5 tyX5 tyX5_ok nmX5 hown hK hP hD hS 0 rfl rfl 14 (by decide) (hts (.fieldLink RX5 113 "TypingTutorModel" "slips" "I") (List.mem_of_getElem? (i := 1) rfl)) (fun _ h9 => h9) rfl (by decide +kernel) rfl rfl (Nat.le_of_ble_eq_true rfl) dX5_tryLetter_109 (fun H locs hP hD hS => ?_)
                have hP : va_P D vwCl (zWM cI cJ cZ h th (n, L) ((zcb (zkt kt x) (zkt pt (26 * o9 + x))), (zcb (zkm true km x) (zkm true pm (26 * o9 + x))), (zcb (upd kl x (zlv (kl x) (if 0 < (1000 - (time / 5)) then (1000 - (time / 5)) else 0))) (upd pl (26 * o9 + x) (zlv (pl (26 * o9 + x)) (if 0 < (1000 - (time / 5)) then (1000 - (time / 5)) else 0))))) mc (run, wc, nu, lc, le, af, tr, 0, (cl + 1), tm) (co, yn, yh, pa) ++ R) _ := hP
                have hD : va_D (zAb B) (zWM cI cJ cZ h th (n, L) ((zcb (zkt kt x) (zkt pt (26 * o9 + x))), (zcb (zkm true km x) (zkm true pm (26 * o9 + x))), (zcb (upd kl x (zlv (kl x) (if 0 < (1000 - (time / 5)) then (1000 - (time / 5)) else 0))) (upd pl (26 * o9 + x) (zlv (pl (26 * o9 + x)) (if 0 < (1000 - (time / 5)) then (1000 - (time / 5)) else 0))))) mc (run, wc, nu, lc, le, af, tr, 0, (cl + 1), tm) (co, yn, yh, pa) ++ R) := hD
                refine lv_aload_n hx hb dX5_tryLetter_112 rfl (lv_at hl 2 rfl) ?_
                refine lv_dup hx hb dX5_tryLetter_113 rfl ?_
                refine va_get (ci := 5) (v := .int (nI tr)) (C := RX5) (T := TX5) (N := 20) hx hb hts hinX5 hown hK hP 0 rfl rfl 13 (by decide) (hts (.fieldLink RX5 110 "TypingTutorModel" "at" "I") (List.mem_of_getElem? (i := 7) rfl)) (fun _ h9 => h9) rfl dX5_tryLetter_114 ?_
                refine lv_iconst (v := 1) hx hb dX5_tryLetter_117 (by decide) ?_
                refine lv_iadd hx hb dX5_tryLetter_118 ?_
                refine lv_topi (fun v_26 ev_26 => ?_)
                obtain rfl : v_26 = (nI (tr + 1)) := ev_26.trans (nI_add tr 1)
                refine va_put (ci := 5) (v := .int (nI (tr + 1))) (ty := .int) (C := RX5) (T := TX5) (N := 20) hx hb hts hinX5 tyX5 tyX5_ok nmX5 hown hK hP hD hS 0 rfl rfl 13 (by decide) (hts (.fieldLink RX5 110 "TypingTutorModel" "at" "I") (List.mem_of_getElem? (i := 7) rfl)) (fun _ h9 => h9) rfl (by decide +kernel) rfl rfl (Nat.le_of_ble_eq_true rfl) dX5_tryLetter_119 (fun H locs hP hD hS => ?_)
                have hP : va_P D vwCl (zWM cI cJ cZ h th (n, L) ((zcb (zkt kt x) (zkt pt (26 * o9 + x))), (zcb (zkm true km x) (zkm true pm (26 * o9 + x))), (zcb (upd kl x (zlv (kl x) (if 0 < (1000 - (time / 5)) then (1000 - (time / 5)) else 0))) (upd pl (26 * o9 + x) (zlv (pl (26 * o9 + x)) (if 0 < (1000 - (time / 5)) then (1000 - (time / 5)) else 0))))) mc (run, wc, nu, lc, le, af, (tr + 1), 0, (cl + 1), tm) (co, yn, yh, pa) ++ R) _ := hP
                have hD : va_D (zAb B) (zWM cI cJ cZ h th (n, L) ((zcb (zkt kt x) (zkt pt (26 * o9 + x))), (zcb (zkm true km x) (zkm true pm (26 * o9 + x))), (zcb (upd kl x (zlv (kl x) (if 0 < (1000 - (time / 5)) then (1000 - (time / 5)) else 0))) (upd pl (26 * o9 + x) (zlv (pl (26 * o9 + x)) (if 0 < (1000 - (time / 5)) then (1000 - (time / 5)) else 0))))) mc (run, wc, nu, lc, le, af, (tr + 1), 0, (cl + 1), tm) (co, yn, yh, pa) ++ R) := hD
                refine lv_aload_n hx hb dX5_tryLetter_122 rfl (lv_at hl 2 rfl) ?_
                refine va_get (ci := 5) (v := .int (nI (tr + 1))) (C := RX5) (T := TX5) (N := 20) hx hb hts hinX5 hown hK hP 0 rfl rfl 13 (by decide) (hts (.fieldLink RX5 110 "TypingTutorModel" "at" "I") (List.mem_of_getElem? (i := 7) rfl)) (fun _ h9 => h9) rfl dX5_tryLetter_123 ?_
                refine lv_aload_n hx hb dX5_tryLetter_126 rfl (lv_at hl 2 rfl) ?_
                refine va_get (ci := 5) (v := .int (nI lc)) (C := RX5) (T := TX5) (N := 20) hx hb hts hinX5 hown hK hP 0 rfl rfl 10 (by decide) (hts (.fieldLink RX5 103 "TypingTutorModel" "letters" "I") (List.mem_of_getElem? (i := 10) rfl)) (fun _ h9 => h9) rfl dX5_tryLetter_127 ?_
                refine lv_icmp_ne (tgt := 137) hx hb dX5_tryLetter_130 (by decide) (fun c_27 => ?_) (fun c_27 => ?_)
                · skip
                  have c_27 : ¬ (tr + 1) = lc := fun hh => c_27 ((nI_eq (a := (tr + 1)) (b := lc) (by omega) (by omega)).mpr hh)
                  omega
                · skip
                  have c_27 : (tr + 1) = lc := (nI_eq (a := (tr + 1)) (b := lc) (by omega) (by omega)).mp c_27
                  refine lv_aload_n hx hb dX5_tryLetter_133 rfl (lv_at hl 2 rfl) ?_
                  refine zcvh (zrV (As := []) (rest := []) ⟨hx, hb, hml, hown, hts⟩ (zV 0 hP hD hK hE hB hS rfl rfl) (c_X5_finish (g := g) (hg) (hco) (hyn) (hy12) (hlc) (by omega)) (cwV 0 hts gX5_tryLetter_X5_finish rfl rfl rfl hdv_X5_finish ⟨Nat.le_of_ble_eq_true rfl, Nat.le_of_ble_eq_true rfl⟩) rfl rfl hl.1 rfl (lv_room (Nat.le_of_ble_eq_true rfl)) dX5_tryLetter_134 ⟨Nat.le_of_ble_eq_true rfl, Nat.le_of_ble_eq_true rfl⟩) hS (fun q9 H locs hP hD hS => ?_)
                  have hP : va_P D vwCl (zWM cI cJ cZ (zh9 h q9) th (n, L) ((zcb (zkt kt x) (zkt pt (26 * o9 + x))), (zcb (zkm true km x) (zkm true pm (26 * o9 + x))), (zcb (upd kl x (zlv (kl x) (if 0 < (1000 - (time / 5)) then (1000 - (time / 5)) else 0))) (upd pl (26 * o9 + x) (zlv (pl (26 * o9 + x)) (if 0 < (1000 - (time / 5)) then (1000 - (time / 5)) else 0))))) mc (false, wc, nu, lc, le, af, (tr + 1), 0, (cl + 1), tm) ((co + 1), (zyn g yn), (zh3 (zyh g yh yn) co lc (cl + 1) tm), (zpc pa lc (cl + 1))) ++ R) _ := hP
                  have hD : va_D (zAb B) (zWM cI cJ cZ (zh9 h q9) th (n, L) ((zcb (zkt kt x) (zkt pt (26 * o9 + x))), (zcb (zkm true km x) (zkm true pm (26 * o9 + x))), (zcb (upd kl x (zlv (kl x) (if 0 < (1000 - (time / 5)) then (1000 - (time / 5)) else 0))) (upd pl (26 * o9 + x) (zlv (pl (26 * o9 + x)) (if 0 < (1000 - (time / 5)) then (1000 - (time / 5)) else 0))))) mc (false, wc, nu, lc, le, af, (tr + 1), 0, (cl + 1), tm) ((co + 1), (zyn g yn), (zh3 (zyh g yh yn) co lc (cl + 1) tm), (zpc pa lc (cl + 1))) ++ R) := hD
                  exact W.vret hx hb hr (fun t ht hW => ⟨⟨q9, rfl, trivial, by rw [ht]; exact hP, hD⟩, hS.F ht⟩) hS.2.2 dX5_tryLetter_137
      | false =>
        refine Met.ofW (cc := cX5_tryLetter) (maxL := 4) (ret := none) (by decide) rfl ?_
        intro p e s m args below meth c s₁ B0 hml hv
        obtain ⟨rfl, hP, hD, hK, hE, hB⟩ := hv
        have hx := B0.exec
        have hb := B0.bytes
        have hr := B0.returns
        have hts := atoms_spec (ws := wsX5_tryLetter) B0.pre
        have hown : s.vm.findClass RX5 = some m.cls := findClass_of_methodNamed B0.named
        have hlocks := B0.notSynchronized
        have hA : ∀ q : Nat, s.heap.size ≤ q → zAb B q := fun q hq => Nat.le_trans hB hq
        have hS : va_S (zAb B) s.heap s.heap [] := va_S.rf
        have hgr : s.heap.size ≤ s.heap.size := Nat.le_refl _
        have hl := lv_entry ([.ref (h 0), .int time]) (n := 4) (Nat.le_of_ble_eq_true rfl)
        rw [lg_entry_eq]
        generalize (lg_sl ([.ref (h 0), .int time]) ++ List.replicate (4 - (lg_sl ([.ref (h 0), .int time])).length) Slot.unset).toArray = ls at hl ⊢
        have hl : lv_has ls 4 [(0, .ref (h 0)), (1, .int time)] := hl
        have hinX5 : ∀ w ∈ wsX50, w ∈ wsX5_tryLetter := fun _ h => List.mem_cons_of_mem _ (List.mem_append_right _ h)
        have hP : va_P D vwCl (zWM cI cJ cZ h th (n, L) ((zcb kt pt), (zcb km pm), (zcb kl pl)) mc (run, wc, nu, lc, le, af, tr, 0, cl, tm) (co, yn, yh, pa) ++ R) s.heap := hP
        have hD : va_D (zAb B) (zWM cI cJ cZ h th (n, L) ((zcb kt pt), (zcb km pm), (zcb kl pl)) mc (run, wc, nu, lc, le, af, tr, 0, cl, tm) (co, yn, yh, pa) ++ R) := hD
        obtain ⟨hb1, hb2, hb3, hy⟩ := ho2 o9 rfl
        have hf : tr + 1 < lc := hf
        refine lv_aload_n hx hb dX5_tryLetter_0 rfl (lv_at hl 0 rfl) ?_
        refine va_get (ci := 5) (v := .int 0) (C := RX5) (T := TX5) (N := 20) hx hb hts hinX5 hown hK hP 0 rfl rfl 14 (by decide) (hts (.fieldLink RX5 113 "TypingTutorModel" "slips" "I") (List.mem_of_getElem? (i := 1) rfl)) (fun _ h9 => h9) rfl dX5_tryLetter_1 ?_
        refine lv_if_ne (tgt := 11) hx hb dX5_tryLetter_4 (by decide) (fun c_28 => ?_) (fun c_28 => ?_)
        · skip
          exfalso; first | omega | (revert c_28; decide) | (exact absurd rfl c_28) | simp_all
        · skip
          refine lv_iconst (v := 1) hx hb dX5_tryLetter_7 (by decide) ?_
          refine lv_goto (tgt := 12) hx hb dX5_tryLetter_8 (by decide) ?_
          refine lv_istore_n (lv' := [(2, .int 1), (0, .ref (h 0)), (1, .int time)]) hx hb dX5_tryLetter_12 rfl hl (by decide) rfl (fun ls hl => ?_)
          refine lv_iload_n hx hb dX5_tryLetter_13 rfl (lv_at hl 0 rfl) ?_
          refine lv_if_eq (tgt := 31) hx hb dX5_tryLetter_14 (by decide) (fun c_29 => ?_) (fun c_29 => ?_)
          · skip
            exfalso; first | omega | (revert c_29; decide) | (exact absurd rfl c_29) | simp_all
          · skip
            refine lv_iconst (v := 0) hx hb dX5_tryLetter_17 (by decide) ?_
            refine lv_sipush (v := 1000) hx hb dX5_tryLetter_18 (by decide) ?_
            refine lv_iload_n hx hb dX5_tryLetter_21 rfl (lv_at hl 2 rfl) ?_
            refine lv_iconst (v := 5) hx hb dX5_tryLetter_22 (by decide) ?_
            refine lv_idiv hx hb dX5_tryLetter_23 (by decide) ?_
            refine lv_isub hx hb dX5_tryLetter_24 ?_
            refine va_mmax hx hb (hml.trans hl.1.symm) hown (hts (.methodLink RX5 135 Lib.Math.max.name) (List.mem_of_getElem? (i := 2) rfl)) (hts (.static Lib.Math.max.name) (List.mem_of_getElem? (i := 3) rfl)) (hts (.initialized "java/lang/Math") (List.mem_of_getElem? (i := 4) rfl)) (hts (.code Lib.Math.max.name Lib.Math.max.code 2 (some .int)) (List.mem_of_getElem? (i := 5) rfl)) (Nat.le_of_ble_eq_true rfl) (Nat.le_of_ble_eq_true rfl) (Nat.le_of_ble_eq_true rfl) (Nat.le_of_ble_eq_true rfl) dX5_tryLetter_25 ?_
            refine lv_goto (tgt := 32) hx hb dX5_tryLetter_28 (by decide) ?_
            refine lv_istore_n (lv' := [(3, .int (if 0 < (1000 - (time / 5)) then (1000 - (time / 5)) else 0)), (2, .int 1), (0, .ref (h 0)), (1, .int time)]) hx hb dX5_tryLetter_32 rfl hl (by decide) rfl (fun ls hl => ?_)
            refine lv_aload_n hx hb dX5_tryLetter_33 rfl (lv_at hl 2 rfl) ?_
            refine lv_aload_n hx hb dX5_tryLetter_34 rfl (lv_at hl 2 rfl) ?_
            refine va_get (ci := 5) (v := .ref (h 7)) (C := RX5) (T := TX5) (N := 20) hx hb hts hinX5 hown hK hP 0 rfl rfl 11 (by decide) (hts (.fieldLink RX5 29 "TypingTutorModel" "text" "[I") (List.mem_of_getElem? (i := 6) rfl)) (fun _ h9 => h9) rfl dX5_tryLetter_35 ?_
            refine lv_aload_n hx hb dX5_tryLetter_38 rfl (lv_at hl 2 rfl) ?_
            refine va_get (ci := 5) (v := .int (nI tr)) (C := RX5) (T := TX5) (N := 20) hx hb hts hinX5 hown hK hP 0 rfl rfl 13 (by decide) (hts (.fieldLink RX5 110 "TypingTutorModel" "at" "I") (List.mem_of_getElem? (i := 7) rfl)) (fun _ h9 => h9) rfl dX5_tryLetter_39 ?_
            refine va_iald hx hb hK hP 7 0 rfl rfl (vp_in_nI (n := tr) (N := 48) (by omega) (by omega)) dX5_tryLetter_42 ?_
            rw [pk_cl (x := (nI tr)) tr (rfl) (by omega)]
            refine lv_topi (fun v_30 ev_30 => ?_)
            obtain rfl : v_30 = (nI x) := ev_30.trans (hx9)
            refine lv_iload_n hx hb dX5_tryLetter_43 rfl (lv_at hl 1 rfl) ?_
            refine lv_iload_n hx hb dX5_tryLetter_44 rfl (lv_at hl 0 rfl) ?_
            refine zcv (zrV (As := [.int (nI x), .int 1, .int (if 0 < (1000 - (time / 5)) then (1000 - (time / 5)) else 0)]) (rest := []) ⟨hx, hb, hml, hown, hts⟩ (zV 0 hP hD hK hE hB hS rfl rfl) (c_X5_learn_k (k := x) (b := true) (by omega)) (cwV 3 hts gX5_tryLetter_X5_learn rfl rfl rfl hdv_X5_learn ⟨Nat.le_of_ble_eq_true rfl, Nat.le_of_ble_eq_true rfl⟩) rfl rfl hl.1 rfl (lv_room (Nat.le_of_ble_eq_true rfl)) dX5_tryLetter_45 ⟨Nat.le_of_ble_eq_true rfl, Nat.le_of_ble_eq_true rfl⟩) hS (fun H locs hP hD hS => ?_)
            have hP : va_P D vwCl (zWM cI cJ cZ h th (n, L) ((zcb (zkt kt x) pt), (zcb (zkm true km x) pm), (zcb (upd kl x (zlv (kl x) (if 0 < (1000 - (time / 5)) then (1000 - (time / 5)) else 0))) pl)) mc (run, wc, nu, lc, le, af, tr, 0, cl, tm) (co, yn, yh, pa) ++ R) _ := hP
            have hD : va_D (zAb B) (zWM cI cJ cZ h th (n, L) ((zcb (zkt kt x) pt), (zcb (zkm true km x) pm), (zcb (upd kl x (zlv (kl x) (if 0 < (1000 - (time / 5)) then (1000 - (time / 5)) else 0))) pl)) mc (run, wc, nu, lc, le, af, tr, 0, cl, tm) (co, yn, yh, pa) ++ R) := hD
            refine lv_aload_n hx hb dX5_tryLetter_48 rfl (lv_at hl 2 rfl) ?_
            refine va_get (ci := 5) (v := .ref (h 8)) (C := RX5) (T := TX5) (N := 20) hx hb hts hinX5 hown hK hP 0 rfl rfl 12 (by decide) (hts (.fieldLink RX5 32 "TypingTutorModel" "areFirst" "[Z") (List.mem_of_getElem? (i := 8) rfl)) (fun _ h9 => h9) rfl dX5_tryLetter_49 ?_
            refine lv_aload_n hx hb dX5_tryLetter_52 rfl (lv_at hl 2 rfl) ?_
            refine va_get (ci := 5) (v := .int (nI tr)) (C := RX5) (T := TX5) (N := 20) hx hb hts hinX5 hown hK hP 0 rfl rfl 13 (by decide) (hts (.fieldLink RX5 110 "TypingTutorModel" "at" "I") (List.mem_of_getElem? (i := 7) rfl)) (fun _ h9 => h9) rfl dX5_tryLetter_53 ?_
            refine va_zald hx hb hK hP 8 2 rfl rfl (vp_in_nI (n := tr) (N := 49) (by omega) (by omega)) dX5_tryLetter_56 ?_
            rw [pk_cl (x := (nI tr)) tr (rfl) (by omega)]
            refine lv_if_ne (tgt := 89) hx hb dX5_tryLetter_57 (by decide) (fun c_31 => ?_) (fun c_31 => ?_)
            · skip
              exact absurd hb1 c_31
            · skip
              refine lv_aload_n hx hb dX5_tryLetter_60 rfl (lv_at hl 2 rfl) ?_
              refine lv_aload_n hx hb dX5_tryLetter_61 rfl (lv_at hl 2 rfl) ?_
              refine va_get (ci := 5) (v := .ref (h 7)) (C := RX5) (T := TX5) (N := 20) hx hb hts hinX5 hown hK hP 0 rfl rfl 11 (by decide) (hts (.fieldLink RX5 29 "TypingTutorModel" "text" "[I") (List.mem_of_getElem? (i := 6) rfl)) (fun _ h9 => h9) rfl dX5_tryLetter_62 ?_
              refine lv_aload_n hx hb dX5_tryLetter_65 rfl (lv_at hl 2 rfl) ?_
              refine va_get (ci := 5) (v := .int (nI tr)) (C := RX5) (T := TX5) (N := 20) hx hb hts hinX5 hown hK hP 0 rfl rfl 13 (by decide) (hts (.fieldLink RX5 110 "TypingTutorModel" "at" "I") (List.mem_of_getElem? (i := 7) rfl)) (fun _ h9 => h9) rfl dX5_tryLetter_66 ?_
              refine lv_iconst (v := 1) hx hb dX5_tryLetter_69 (by decide) ?_
              refine lv_isub hx hb dX5_tryLetter_70 ?_
              refine lv_topi (fun v_32 ev_32 => ?_)
              obtain rfl : v_32 = (nI (tr - 1)) := ev_32.trans (pk_sub (a := tr) (b := 1) (by omega))
              refine va_iald hx hb hK hP 7 0 rfl rfl (vp_in_nI (n := (tr - 1)) (N := 48) (by omega) (by omega)) dX5_tryLetter_71 ?_
              rw [pk_cl (x := (nI (tr - 1))) (tr - 1) (rfl) (by omega)]
              refine lv_topi (fun v_33 ev_33 => ?_)
              obtain rfl : v_33 = (nI o9) := ev_33.trans (hb3)
              refine lv_aload_n hx hb dX5_tryLetter_72 rfl (lv_at hl 2 rfl) ?_
              refine va_get (ci := 5) (v := .ref (h 7)) (C := RX5) (T := TX5) (N := 20) hx hb hts hinX5 hown hK hP 0 rfl rfl 11 (by decide) (hts (.fieldLink RX5 29 "TypingTutorModel" "text" "[I") (List.mem_of_getElem? (i := 6) rfl)) (fun _ h9 => h9) rfl dX5_tryLetter_73 ?_
              refine lv_aload_n hx hb dX5_tryLetter_76 rfl (lv_at hl 2 rfl) ?_
              refine va_get (ci := 5) (v := .int (nI tr)) (C := RX5) (T := TX5) (N := 20) hx hb hts hinX5 hown hK hP 0 rfl rfl 13 (by decide) (hts (.fieldLink RX5 110 "TypingTutorModel" "at" "I") (List.mem_of_getElem? (i := 7) rfl)) (fun _ h9 => h9) rfl dX5_tryLetter_77 ?_
              refine va_iald hx hb hK hP 7 0 rfl rfl (vp_in_nI (n := tr) (N := 48) (by omega) (by omega)) dX5_tryLetter_80 ?_
              rw [pk_cl (x := (nI tr)) tr (rfl) (by omega)]
              refine lv_topi (fun v_34 ev_34 => ?_)
              obtain rfl : v_34 = (nI x) := ev_34.trans (hx9)
              refine zci (zrS (As := [.int (nI o9), .int (nI x)]) (rest := [.ref (h 0)]) ⟨hx, hb, hml, hown, hts⟩ (zS hP hD hK hE hB hS) (c_X5_pairOf (a := o9) (b := x) ) (va_cwS 2 hts gX5_tryLetter_X5_pairOf rfl rfl rfl hds_X5_pairOf ⟨Nat.le_of_ble_eq_true rfl, Nat.le_of_ble_eq_true rfl⟩) rfl rfl hl.1 rfl (lv_room (Nat.le_of_ble_eq_true rfl)) dX5_tryLetter_81 ⟨Nat.le_of_ble_eq_true rfl, Nat.le_of_ble_eq_true rfl⟩) hS (fun H locs hP hD hS => ?_)
              have hP : va_P D vwCl (zWM cI cJ cZ h th (n, L) ((zcb (zkt kt x) pt), (zcb (zkm true km x) pm), (zcb (upd kl x (zlv (kl x) (if 0 < (1000 - (time / 5)) then (1000 - (time / 5)) else 0))) pl)) mc (run, wc, nu, lc, le, af, tr, 0, cl, tm) (co, yn, yh, pa) ++ R) _ := hP
              have hD : va_D (zAb B) (zWM cI cJ cZ h th (n, L) ((zcb (zkt kt x) pt), (zcb (zkm true km x) pm), (zcb (upd kl x (zlv (kl x) (if 0 < (1000 - (time / 5)) then (1000 - (time / 5)) else 0))) pl)) mc (run, wc, nu, lc, le, af, tr, 0, cl, tm) (co, yn, yh, pa) ++ R) := hD
              refine lv_iload_n hx hb dX5_tryLetter_84 rfl (lv_at hl 1 rfl) ?_
              refine lv_iload_n hx hb dX5_tryLetter_85 rfl (lv_at hl 0 rfl) ?_
              refine zcv (zrV (As := [.int (nI (26 + (26 * o9 + x))), .int 1, .int (if 0 < (1000 - (time / 5)) then (1000 - (time / 5)) else 0)]) (rest := []) ⟨hx, hb, hml, hown, hts⟩ (zV 0 hP hD hK hE hB hS rfl rfl) (c_X5_learn_p (b := true) (k := (26 * o9 + x)) (by omega)) (cwV 3 hts gX5_tryLetter_X5_learn rfl rfl rfl hdv_X5_learn ⟨Nat.le_of_ble_eq_true rfl, Nat.le_of_ble_eq_true rfl⟩) rfl rfl hl.1 rfl (lv_room (Nat.le_of_ble_eq_true rfl)) dX5_tryLetter_86 ⟨Nat.le_of_ble_eq_true rfl, Nat.le_of_ble_eq_true rfl⟩) hS (fun H locs hP hD hS => ?_)
              have hP : va_P D vwCl (zWM cI cJ cZ h th (n, L) ((zcb (zkt kt x) (zkt pt (26 * o9 + x))), (zcb (zkm true km x) (zkm true pm (26 * o9 + x))), (zcb (upd kl x (zlv (kl x) (if 0 < (1000 - (time / 5)) then (1000 - (time / 5)) else 0))) (upd pl (26 * o9 + x) (zlv (pl (26 * o9 + x)) (if 0 < (1000 - (time / 5)) then (1000 - (time / 5)) else 0))))) mc (run, wc, nu, lc, le, af, tr, 0, cl, tm) (co, yn, yh, pa) ++ R) _ := hP
              have hD : va_D (zAb B) (zWM cI cJ cZ h th (n, L) ((zcb (zkt kt x) (zkt pt (26 * o9 + x))), (zcb (zkm true km x) (zkm true pm (26 * o9 + x))), (zcb (upd kl x (zlv (kl x) (if 0 < (1000 - (time / 5)) then (1000 - (time / 5)) else 0))) (upd pl (26 * o9 + x) (zlv (pl (26 * o9 + x)) (if 0 < (1000 - (time / 5)) then (1000 - (time / 5)) else 0))))) mc (run, wc, nu, lc, le, af, tr, 0, cl, tm) (co, yn, yh, pa) ++ R) := hD
              refine lv_aload_n hx hb dX5_tryLetter_89 rfl (lv_at hl 2 rfl) ?_
              refine lv_dup hx hb dX5_tryLetter_90 rfl ?_
              refine va_get (ci := 5) (v := .int (nI cl)) (C := RX5) (T := TX5) (N := 20) hx hb hts hinX5 hown hK hP 0 rfl rfl 15 (by decide) (hts (.fieldLink RX5 116 "TypingTutorModel" "clean" "I") (List.mem_of_getElem? (i := 9) rfl)) (fun _ h9 => h9) rfl dX5_tryLetter_91 ?_
              refine lv_iload_n hx hb dX5_tryLetter_94 rfl (lv_at hl 1 rfl) ?_
              refine lv_if_eq (tgt := 102) hx hb dX5_tryLetter_95 (by decide) (fun c_35 => ?_) (fun c_35 => ?_)
              · skip
                exfalso; first | omega | (revert c_35; decide) | (exact absurd rfl c_35) | simp_all
              · skip
                refine lv_iconst (v := 1) hx hb dX5_tryLetter_98 (by decide) ?_
                refine lv_goto (tgt := 103) hx hb dX5_tryLetter_99 (by decide) ?_
                refine lv_iadd hx hb dX5_tryLetter_103 ?_
                refine lv_topi (fun v_36 ev_36 => ?_)
                obtain rfl : v_36 = (nI (cl + 1)) := ev_36.trans (nI_add cl 1)
                refine va_put (ci := 5) (v := .int (nI (cl + 1))) (ty := .int) (C := RX5) (T := TX5) (N := 20) hx hb hts hinX5 tyX5 tyX5_ok nmX5 hown hK hP hD hS 0 rfl rfl 15 (by decide) (hts (.fieldLink RX5 116 "TypingTutorModel" "clean" "I") (List.mem_of_getElem? (i := 9) rfl)) (fun _ h9 => h9) rfl (by decide +kernel) rfl rfl (Nat.le_of_ble_eq_true rfl) dX5_tryLetter_104 (fun H locs hP hD hS => ?_)
                have hP : va_P D vwCl (zWM cI cJ cZ h th (n, L) ((zcb (zkt kt x) (zkt pt (26 * o9 + x))), (zcb (zkm true km x) (zkm true pm (26 * o9 + x))), (zcb (upd kl x (zlv (kl x) (if 0 < (1000 - (time / 5)) then (1000 - (time / 5)) else 0))) (upd pl (26 * o9 + x) (zlv (pl (26 * o9 + x)) (if 0 < (1000 - (time / 5)) then (1000 - (time / 5)) else 0))))) mc (run, wc, nu, lc, le, af, tr, 0, (cl + 1), tm) (co, yn, yh, pa) ++ R) _ := hP
                have hD : va_D (zAb B) (zWM cI cJ cZ h th (n, L) ((zcb (zkt kt x) (zkt pt (26 * o9 + x))), (zcb (zkm true km x) (zkm true pm (26 * o9 + x))), (zcb (upd kl x (zlv (kl x) (if 0 < (1000 - (time / 5)) then (1000 - (time / 5)) else 0))) (upd pl (26 * o9 + x) (zlv (pl (26 * o9 + x)) (if 0 < (1000 - (time / 5)) then (1000 - (time / 5)) else 0))))) mc (run, wc, nu, lc, le, af, tr, 0, (cl + 1), tm) (co, yn, yh, pa) ++ R) := hD
                refine lv_aload_n hx hb dX5_tryLetter_107 rfl (lv_at hl 2 rfl) ?_
                refine lv_iconst (v := 0) hx hb dX5_tryLetter_108 (by decide) ?_
                refine va_put (ci := 5) (v := .int 0) (ty := .int) (C := RX5) (T := TX5) (N := 20) hx hb hts hinX5 tyX5 tyX5_ok nmX5 hown hK hP hD hS 0 rfl rfl 14 (by decide) (hts (.fieldLink RX5 113 "TypingTutorModel" "slips" "I") (List.mem_of_getElem? (i := 1) rfl)) (fun _ h9 => h9) rfl (by decide +kernel) rfl rfl (Nat.le_of_ble_eq_true rfl) dX5_tryLetter_109 (fun H locs hP hD hS => ?_)
                have hP : va_P D vwCl (zWM cI cJ cZ h th (n, L) ((zcb (zkt kt x) (zkt pt (26 * o9 + x))), (zcb (zkm true km x) (zkm true pm (26 * o9 + x))), (zcb (upd kl x (zlv (kl x) (if 0 < (1000 - (time / 5)) then (1000 - (time / 5)) else 0))) (upd pl (26 * o9 + x) (zlv (pl (26 * o9 + x)) (if 0 < (1000 - (time / 5)) then (1000 - (time / 5)) else 0))))) mc (run, wc, nu, lc, le, af, tr, 0, (cl + 1), tm) (co, yn, yh, pa) ++ R) _ := hP
                have hD : va_D (zAb B) (zWM cI cJ cZ h th (n, L) ((zcb (zkt kt x) (zkt pt (26 * o9 + x))), (zcb (zkm true km x) (zkm true pm (26 * o9 + x))), (zcb (upd kl x (zlv (kl x) (if 0 < (1000 - (time / 5)) then (1000 - (time / 5)) else 0))) (upd pl (26 * o9 + x) (zlv (pl (26 * o9 + x)) (if 0 < (1000 - (time / 5)) then (1000 - (time / 5)) else 0))))) mc (run, wc, nu, lc, le, af, tr, 0, (cl + 1), tm) (co, yn, yh, pa) ++ R) := hD
                refine lv_aload_n hx hb dX5_tryLetter_112 rfl (lv_at hl 2 rfl) ?_
                refine lv_dup hx hb dX5_tryLetter_113 rfl ?_
                refine va_get (ci := 5) (v := .int (nI tr)) (C := RX5) (T := TX5) (N := 20) hx hb hts hinX5 hown hK hP 0 rfl rfl 13 (by decide) (hts (.fieldLink RX5 110 "TypingTutorModel" "at" "I") (List.mem_of_getElem? (i := 7) rfl)) (fun _ h9 => h9) rfl dX5_tryLetter_114 ?_
                refine lv_iconst (v := 1) hx hb dX5_tryLetter_117 (by decide) ?_
                refine lv_iadd hx hb dX5_tryLetter_118 ?_
                refine lv_topi (fun v_37 ev_37 => ?_)
                obtain rfl : v_37 = (nI (tr + 1)) := ev_37.trans (nI_add tr 1)
                refine va_put (ci := 5) (v := .int (nI (tr + 1))) (ty := .int) (C := RX5) (T := TX5) (N := 20) hx hb hts hinX5 tyX5 tyX5_ok nmX5 hown hK hP hD hS 0 rfl rfl 13 (by decide) (hts (.fieldLink RX5 110 "TypingTutorModel" "at" "I") (List.mem_of_getElem? (i := 7) rfl)) (fun _ h9 => h9) rfl (by decide +kernel) rfl rfl (Nat.le_of_ble_eq_true rfl) dX5_tryLetter_119 (fun H locs hP hD hS => ?_)
                have hP : va_P D vwCl (zWM cI cJ cZ h th (n, L) ((zcb (zkt kt x) (zkt pt (26 * o9 + x))), (zcb (zkm true km x) (zkm true pm (26 * o9 + x))), (zcb (upd kl x (zlv (kl x) (if 0 < (1000 - (time / 5)) then (1000 - (time / 5)) else 0))) (upd pl (26 * o9 + x) (zlv (pl (26 * o9 + x)) (if 0 < (1000 - (time / 5)) then (1000 - (time / 5)) else 0))))) mc (run, wc, nu, lc, le, af, (tr + 1), 0, (cl + 1), tm) (co, yn, yh, pa) ++ R) _ := hP
                have hD : va_D (zAb B) (zWM cI cJ cZ h th (n, L) ((zcb (zkt kt x) (zkt pt (26 * o9 + x))), (zcb (zkm true km x) (zkm true pm (26 * o9 + x))), (zcb (upd kl x (zlv (kl x) (if 0 < (1000 - (time / 5)) then (1000 - (time / 5)) else 0))) (upd pl (26 * o9 + x) (zlv (pl (26 * o9 + x)) (if 0 < (1000 - (time / 5)) then (1000 - (time / 5)) else 0))))) mc (run, wc, nu, lc, le, af, (tr + 1), 0, (cl + 1), tm) (co, yn, yh, pa) ++ R) := hD
                refine lv_aload_n hx hb dX5_tryLetter_122 rfl (lv_at hl 2 rfl) ?_
                refine va_get (ci := 5) (v := .int (nI (tr + 1))) (C := RX5) (T := TX5) (N := 20) hx hb hts hinX5 hown hK hP 0 rfl rfl 13 (by decide) (hts (.fieldLink RX5 110 "TypingTutorModel" "at" "I") (List.mem_of_getElem? (i := 7) rfl)) (fun _ h9 => h9) rfl dX5_tryLetter_123 ?_
                refine lv_aload_n hx hb dX5_tryLetter_126 rfl (lv_at hl 2 rfl) ?_
                refine va_get (ci := 5) (v := .int (nI lc)) (C := RX5) (T := TX5) (N := 20) hx hb hts hinX5 hown hK hP 0 rfl rfl 10 (by decide) (hts (.fieldLink RX5 103 "TypingTutorModel" "letters" "I") (List.mem_of_getElem? (i := 10) rfl)) (fun _ h9 => h9) rfl dX5_tryLetter_127 ?_
                refine lv_icmp_ne (tgt := 137) hx hb dX5_tryLetter_130 (by decide) (fun c_38 => ?_) (fun c_38 => ?_)
                · skip
                  have c_38 : ¬ (tr + 1) = lc := fun hh => c_38 ((nI_eq (a := (tr + 1)) (b := lc) (by omega) (by omega)).mpr hh)
                  refine W.widen (k := 1) (n := 1536) (Nat.le_of_ble_eq_true rfl) (Nat.le_of_ble_eq_true rfl) ?_
                  exact W.vret hx hb hr (fun t ht hW => ⟨⟨(h 9), rfl, trivial, by rw [ht]; exact hP, hD⟩, hS.F ht⟩) hS.2.2 dX5_tryLetter_137
                · skip
                  have c_38 : (tr + 1) = lc := (nI_eq (a := (tr + 1)) (b := lc) (by omega) (by omega)).mp c_38
                  omega
  | succ ms9 =>
    cases o with
    | none =>
      cases fin with
      | true =>
        refine Met.ofW (cc := cX5_tryLetter) (maxL := 4) (ret := none) (by decide) rfl ?_
        intro p e s m args below meth c s₁ B0 hml hv
        obtain ⟨rfl, hP, hD, hK, hE, hB⟩ := hv
        have hx := B0.exec
        have hb := B0.bytes
        have hr := B0.returns
        have hts := atoms_spec (ws := wsX5_tryLetter) B0.pre
        have hown : s.vm.findClass RX5 = some m.cls := findClass_of_methodNamed B0.named
        have hlocks := B0.notSynchronized
        have hA : ∀ q : Nat, s.heap.size ≤ q → zAb B q := fun q hq => Nat.le_trans hB hq
        have hS : va_S (zAb B) s.heap s.heap [] := va_S.rf
        have hgr : s.heap.size ≤ s.heap.size := Nat.le_refl _
        have hl := lv_entry ([.ref (h 0), .int time]) (n := 4) (Nat.le_of_ble_eq_true rfl)
        rw [lg_entry_eq]
        generalize (lg_sl ([.ref (h 0), .int time]) ++ List.replicate (4 - (lg_sl ([.ref (h 0), .int time])).length) Slot.unset).toArray = ls at hl ⊢
        have hl : lv_has ls 4 [(0, .ref (h 0)), (1, .int time)] := hl
        have hinX5 : ∀ w ∈ wsX50, w ∈ wsX5_tryLetter := fun _ h => List.mem_cons_of_mem _ (List.mem_append_right _ h)
        have hP : va_P D vwCl (zWM cI cJ cZ h th (n, L) ((zcb kt pt), (zcb km pm), (zcb kl pl)) mc (run, wc, nu, lc, le, af, tr, (ms9 + 1), cl, tm) (co, yn, yh, pa) ++ R) s.heap := hP
        have hD : va_D (zAb B) (zWM cI cJ cZ h th (n, L) ((zcb kt pt), (zcb km pm), (zcb kl pl)) mc (run, wc, nu, lc, le, af, tr, (ms9 + 1), cl, tm) (co, yn, yh, pa) ++ R) := hD
        have hb1 := ho1 rfl
        have hf : tr + 1 = lc := hf
        refine lv_aload_n hx hb dX5_tryLetter_0 rfl (lv_at hl 0 rfl) ?_
        refine va_get (ci := 5) (v := .int (nI (ms9 + 1))) (C := RX5) (T := TX5) (N := 20) hx hb hts hinX5 hown hK hP 0 rfl rfl 14 (by decide) (hts (.fieldLink RX5 113 "TypingTutorModel" "slips" "I") (List.mem_of_getElem? (i := 1) rfl)) (fun _ h9 => h9) rfl dX5_tryLetter_1 ?_
        refine lv_if_ne (tgt := 11) hx hb dX5_tryLetter_4 (by decide) (fun c_39 => ?_) (fun c_39 => ?_)
        · skip
          have c_39 : ¬ (ms9 + 1) = 0 := fun hh => c_39 ((nI_eq (a := (ms9 + 1)) (b := 0) (by omega) (by omega)).mpr hh)
          refine lv_iconst (v := 0) hx hb dX5_tryLetter_11 (by decide) ?_
          refine lv_istore_n (lv' := [(2, .int 0), (0, .ref (h 0)), (1, .int time)]) hx hb dX5_tryLetter_12 rfl hl (by decide) rfl (fun ls hl => ?_)
          refine lv_iload_n hx hb dX5_tryLetter_13 rfl (lv_at hl 0 rfl) ?_
          refine lv_if_eq (tgt := 31) hx hb dX5_tryLetter_14 (by decide) (fun c_40 => ?_) (fun c_40 => ?_)
          · skip
            refine lv_iconst (v := 0) hx hb dX5_tryLetter_31 (by decide) ?_
            refine lv_istore_n (lv' := [(3, .int 0), (2, .int 0), (0, .ref (h 0)), (1, .int time)]) hx hb dX5_tryLetter_32 rfl hl (by decide) rfl (fun ls hl => ?_)
            refine lv_aload_n hx hb dX5_tryLetter_33 rfl (lv_at hl 2 rfl) ?_
            refine lv_aload_n hx hb dX5_tryLetter_34 rfl (lv_at hl 2 rfl) ?_
            refine va_get (ci := 5) (v := .ref (h 7)) (C := RX5) (T := TX5) (N := 20) hx hb hts hinX5 hown hK hP 0 rfl rfl 11 (by decide) (hts (.fieldLink RX5 29 "TypingTutorModel" "text" "[I") (List.mem_of_getElem? (i := 6) rfl)) (fun _ h9 => h9) rfl dX5_tryLetter_35 ?_
            refine lv_aload_n hx hb dX5_tryLetter_38 rfl (lv_at hl 2 rfl) ?_
            refine va_get (ci := 5) (v := .int (nI tr)) (C := RX5) (T := TX5) (N := 20) hx hb hts hinX5 hown hK hP 0 rfl rfl 13 (by decide) (hts (.fieldLink RX5 110 "TypingTutorModel" "at" "I") (List.mem_of_getElem? (i := 7) rfl)) (fun _ h9 => h9) rfl dX5_tryLetter_39 ?_
            refine va_iald hx hb hK hP 7 0 rfl rfl (vp_in_nI (n := tr) (N := 48) (by omega) (by omega)) dX5_tryLetter_42 ?_
            rw [pk_cl (x := (nI tr)) tr (rfl) (by omega)]
            refine lv_topi (fun v_41 ev_41 => ?_)
            obtain rfl : v_41 = (nI x) := ev_41.trans (hx9)
            refine lv_iload_n hx hb dX5_tryLetter_43 rfl (lv_at hl 1 rfl) ?_
            refine lv_iload_n hx hb dX5_tryLetter_44 rfl (lv_at hl 0 rfl) ?_
            refine zcv (zrV (As := [.int (nI x), .int 0, .int 0]) (rest := []) ⟨hx, hb, hml, hown, hts⟩ (zV 0 hP hD hK hE hB hS rfl rfl) (c_X5_learn_k (k := x) (b := false) (by omega)) (cwV 3 hts gX5_tryLetter_X5_learn rfl rfl rfl hdv_X5_learn ⟨Nat.le_of_ble_eq_true rfl, Nat.le_of_ble_eq_true rfl⟩) rfl rfl hl.1 rfl (lv_room (Nat.le_of_ble_eq_true rfl)) dX5_tryLetter_45 ⟨Nat.le_of_ble_eq_true rfl, Nat.le_of_ble_eq_true rfl⟩) hS (fun H locs hP hD hS => ?_)
            have hP : va_P D vwCl (zWM cI cJ cZ h th (n, L) ((zcb (zkt kt x) pt), (zcb (zkm false km x) pm), (zcb (upd kl x (zlv (kl x) 0)) pl)) mc (run, wc, nu, lc, le, af, tr, (ms9 + 1), cl, tm) (co, yn, yh, pa) ++ R) _ := hP
            have hD : va_D (zAb B) (zWM cI cJ cZ h th (n, L) ((zcb (zkt kt x) pt), (zcb (zkm false km x) pm), (zcb (upd kl x (zlv (kl x) 0)) pl)) mc (run, wc, nu, lc, le, af, tr, (ms9 + 1), cl, tm) (co, yn, yh, pa) ++ R) := hD
            refine lv_aload_n hx hb dX5_tryLetter_48 rfl (lv_at hl 2 rfl) ?_
            refine va_get (ci := 5) (v := .ref (h 8)) (C := RX5) (T := TX5) (N := 20) hx hb hts hinX5 hown hK hP 0 rfl rfl 12 (by decide) (hts (.fieldLink RX5 32 "TypingTutorModel" "areFirst" "[Z") (List.mem_of_getElem? (i := 8) rfl)) (fun _ h9 => h9) rfl dX5_tryLetter_49 ?_
            refine lv_aload_n hx hb dX5_tryLetter_52 rfl (lv_at hl 2 rfl) ?_
            refine va_get (ci := 5) (v := .int (nI tr)) (C := RX5) (T := TX5) (N := 20) hx hb hts hinX5 hown hK hP 0 rfl rfl 13 (by decide) (hts (.fieldLink RX5 110 "TypingTutorModel" "at" "I") (List.mem_of_getElem? (i := 7) rfl)) (fun _ h9 => h9) rfl dX5_tryLetter_53 ?_
            refine va_zald hx hb hK hP 8 2 rfl rfl (vp_in_nI (n := tr) (N := 49) (by omega) (by omega)) dX5_tryLetter_56 ?_
            rw [pk_cl (x := (nI tr)) tr (rfl) (by omega)]
            refine lv_if_ne (tgt := 89) hx hb dX5_tryLetter_57 (by decide) (fun c_42 => ?_) (fun c_42 => ?_)
            · skip
              refine lv_aload_n hx hb dX5_tryLetter_89 rfl (lv_at hl 2 rfl) ?_
              refine lv_dup hx hb dX5_tryLetter_90 rfl ?_
              refine va_get (ci := 5) (v := .int (nI cl)) (C := RX5) (T := TX5) (N := 20) hx hb hts hinX5 hown hK hP 0 rfl rfl 15 (by decide) (hts (.fieldLink RX5 116 "TypingTutorModel" "clean" "I") (List.mem_of_getElem? (i := 9) rfl)) (fun _ h9 => h9) rfl dX5_tryLetter_91 ?_
              refine lv_iload_n hx hb dX5_tryLetter_94 rfl (lv_at hl 1 rfl) ?_
              refine lv_if_eq (tgt := 102) hx hb dX5_tryLetter_95 (by decide) (fun c_43 => ?_) (fun c_43 => ?_)
              · skip
                refine lv_iconst (v := 0) hx hb dX5_tryLetter_102 (by decide) ?_
                refine lv_iadd hx hb dX5_tryLetter_103 ?_
                refine lv_topi (fun v_44 ev_44 => ?_)
                obtain rfl : v_44 = (nI (cl + 0)) := ev_44.trans (nI_add cl 0)
                refine va_put (ci := 5) (v := .int (nI (cl + 0))) (ty := .int) (C := RX5) (T := TX5) (N := 20) hx hb hts hinX5 tyX5 tyX5_ok nmX5 hown hK hP hD hS 0 rfl rfl 15 (by decide) (hts (.fieldLink RX5 116 "TypingTutorModel" "clean" "I") (List.mem_of_getElem? (i := 9) rfl)) (fun _ h9 => h9) rfl (by decide +kernel) rfl rfl (Nat.le_of_ble_eq_true rfl) dX5_tryLetter_104 (fun H locs hP hD hS => ?_)
                have hP : va_P D vwCl (zWM cI cJ cZ h th (n, L) ((zcb (zkt kt x) pt), (zcb (zkm false km x) pm), (zcb (upd kl x (zlv (kl x) 0)) pl)) mc (run, wc, nu, lc, le, af, tr, (ms9 + 1), (cl + 0), tm) (co, yn, yh, pa) ++ R) _ := hP
                have hD : va_D (zAb B) (zWM cI cJ cZ h th (n, L) ((zcb (zkt kt x) pt), (zcb (zkm false km x) pm), (zcb (upd kl x (zlv (kl x) 0)) pl)) mc (run, wc, nu, lc, le, af, tr, (ms9 + 1), (cl + 0), tm) (co, yn, yh, pa) ++ R) := hD
                refine lv_aload_n hx hb dX5_tryLetter_107 rfl (lv_at hl 2 rfl) ?_
                refine lv_iconst (v := 0) hx hb dX5_tryLetter_108 (by decide) ?_
                refine va_put (ci := 5) (v := .int 0) (ty := .int) (C := RX5) (T := TX5) (N := 20) hx hb hts hinX5 tyX5 tyX5_ok nmX5 hown hK hP hD hS 0 rfl rfl 14 (by decide) (hts (.fieldLink RX5 113 "TypingTutorModel" "slips" "I") (List.mem_of_getElem? (i := 1) rfl)) (fun _ h9 => h9) rfl (by decide +kernel) rfl rfl (Nat.le_of_ble_eq_true rfl) dX5_tryLetter_109 (fun H locs hP hD hS => ?_)
                have hP : va_P D vwCl (zWM cI cJ cZ h th (n, L) ((zcb (zkt kt x) pt), (zcb (zkm false km x) pm), (zcb (upd kl x (zlv (kl x) 0)) pl)) mc (run, wc, nu, lc, le, af, tr, 0, (cl + 0), tm) (co, yn, yh, pa) ++ R) _ := hP
                have hD : va_D (zAb B) (zWM cI cJ cZ h th (n, L) ((zcb (zkt kt x) pt), (zcb (zkm false km x) pm), (zcb (upd kl x (zlv (kl x) 0)) pl)) mc (run, wc, nu, lc, le, af, tr, 0, (cl + 0), tm) (co, yn, yh, pa) ++ R) := hD
                refine lv_aload_n hx hb dX5_tryLetter_112 rfl (lv_at hl 2 rfl) ?_
                refine lv_dup hx hb dX5_tryLetter_113 rfl ?_
                refine va_get (ci := 5) (v := .int (nI tr)) (C := RX5) (T := TX5) (N := 20) hx hb hts hinX5 hown hK hP 0 rfl rfl 13 (by decide) (hts (.fieldLink RX5 110 "TypingTutorModel" "at" "I") (List.mem_of_getElem? (i := 7) rfl)) (fun _ h9 => h9) rfl dX5_tryLetter_114 ?_
                refine lv_iconst (v := 1) hx hb dX5_tryLetter_117 (by decide) ?_
                refine lv_iadd hx hb dX5_tryLetter_118 ?_
                refine lv_topi (fun v_45 ev_45 => ?_)
                obtain rfl : v_45 = (nI (tr + 1)) := ev_45.trans (nI_add tr 1)
                refine va_put (ci := 5) (v := .int (nI (tr + 1))) (ty := .int) (C := RX5) (T := TX5) (N := 20) hx hb hts hinX5 tyX5 tyX5_ok nmX5 hown hK hP hD hS 0 rfl rfl 13 (by decide) (hts (.fieldLink RX5 110 "TypingTutorModel" "at" "I") (List.mem_of_getElem? (i := 7) rfl)) (fun _ h9 => h9) rfl (by decide +kernel) rfl rfl (Nat.le_of_ble_eq_true rfl) dX5_tryLetter_119 (fun H locs hP hD hS => ?_)
                have hP : va_P D vwCl (zWM cI cJ cZ h th (n, L) ((zcb (zkt kt x) pt), (zcb (zkm false km x) pm), (zcb (upd kl x (zlv (kl x) 0)) pl)) mc (run, wc, nu, lc, le, af, (tr + 1), 0, (cl + 0), tm) (co, yn, yh, pa) ++ R) _ := hP
                have hD : va_D (zAb B) (zWM cI cJ cZ h th (n, L) ((zcb (zkt kt x) pt), (zcb (zkm false km x) pm), (zcb (upd kl x (zlv (kl x) 0)) pl)) mc (run, wc, nu, lc, le, af, (tr + 1), 0, (cl + 0), tm) (co, yn, yh, pa) ++ R) := hD
                refine lv_aload_n hx hb dX5_tryLetter_122 rfl (lv_at hl 2 rfl) ?_
                refine va_get (ci := 5) (v := .int (nI (tr + 1))) (C := RX5) (T := TX5) (N := 20) hx hb hts hinX5 hown hK hP 0 rfl rfl 13 (by decide) (hts (.fieldLink RX5 110 "TypingTutorModel" "at" "I") (List.mem_of_getElem? (i := 7) rfl)) (fun _ h9 => h9) rfl dX5_tryLetter_123 ?_
                refine lv_aload_n hx hb dX5_tryLetter_126 rfl (lv_at hl 2 rfl) ?_
                refine va_get (ci := 5) (v := .int (nI lc)) (C := RX5) (T := TX5) (N := 20) hx hb hts hinX5 hown hK hP 0 rfl rfl 10 (by decide) (hts (.fieldLink RX5 103 "TypingTutorModel" "letters" "I") (List.mem_of_getElem? (i := 10) rfl)) (fun _ h9 => h9) rfl dX5_tryLetter_127 ?_
                refine lv_icmp_ne (tgt := 137) hx hb dX5_tryLetter_130 (by decide) (fun c_46 => ?_) (fun c_46 => ?_)
                · skip
                  have c_46 : ¬ (tr + 1) = lc := fun hh => c_46 ((nI_eq (a := (tr + 1)) (b := lc) (by omega) (by omega)).mpr hh)
                  omega
                · skip
                  have c_46 : (tr + 1) = lc := (nI_eq (a := (tr + 1)) (b := lc) (by omega) (by omega)).mp c_46
                  refine lv_aload_n hx hb dX5_tryLetter_133 rfl (lv_at hl 2 rfl) ?_
                  refine zcvh (zrV (As := []) (rest := []) ⟨hx, hb, hml, hown, hts⟩ (zV 0 hP hD hK hE hB hS rfl rfl) (c_X5_finish (g := g) (hg) (hco) (hyn) (hy12) (hlc) (by omega)) (cwV 0 hts gX5_tryLetter_X5_finish rfl rfl rfl hdv_X5_finish ⟨Nat.le_of_ble_eq_true rfl, Nat.le_of_ble_eq_true rfl⟩) rfl rfl hl.1 rfl (lv_room (Nat.le_of_ble_eq_true rfl)) dX5_tryLetter_134 ⟨Nat.le_of_ble_eq_true rfl, Nat.le_of_ble_eq_true rfl⟩) hS (fun q9 H locs hP hD hS => ?_)
                  have hP : va_P D vwCl (zWM cI cJ cZ (zh9 h q9) th (n, L) ((zcb (zkt kt x) pt), (zcb (zkm false km x) pm), (zcb (upd kl x (zlv (kl x) 0)) pl)) mc (false, wc, nu, lc, le, af, (tr + 1), 0, (cl + 0), tm) ((co + 1), (zyn g yn), (zh3 (zyh g yh yn) co lc (cl + 0) tm), (zpc pa lc (cl + 0))) ++ R) _ := hP
                  have hD : va_D (zAb B) (zWM cI cJ cZ (zh9 h q9) th (n, L) ((zcb (zkt kt x) pt), (zcb (zkm false km x) pm), (zcb (upd kl x (zlv (kl x) 0)) pl)) mc (false, wc, nu, lc, le, af, (tr + 1), 0, (cl + 0), tm) ((co + 1), (zyn g yn), (zh3 (zyh g yh yn) co lc (cl + 0) tm), (zpc pa lc (cl + 0))) ++ R) := hD
                  exact W.vret hx hb hr (fun t ht hW => ⟨⟨q9, rfl, trivial, by rw [ht]; exact hP, hD⟩, hS.F ht⟩) hS.2.2 dX5_tryLetter_137
              · skip
                exfalso; first | omega | (revert c_43; decide) | (exact absurd rfl c_43) | simp_all
            · skip
              exact absurd c_42 hb1
          · skip
            exfalso; first | omega | (revert c_40; decide) | (exact absurd rfl c_40) | simp_all
        · skip
          have c_39 : (ms9 + 1) = 0 := (nI_eq (a := (ms9 + 1)) (b := 0) (by omega) (by omega)).mp c_39
          omega
      | false =>
        refine Met.ofW (cc := cX5_tryLetter) (maxL := 4) (ret := none) (by decide) rfl ?_
        intro p e s m args below meth c s₁ B0 hml hv
        obtain ⟨rfl, hP, hD, hK, hE, hB⟩ := hv
        have hx := B0.exec
        have hb := B0.bytes
        have hr := B0.returns
        have hts := atoms_spec (ws := wsX5_tryLetter) B0.pre
        have hown : s.vm.findClass RX5 = some m.cls := findClass_of_methodNamed B0.named
        have hlocks := B0.notSynchronized
        have hA : ∀ q : Nat, s.heap.size ≤ q → zAb B q := fun q hq => Nat.le_trans hB hq
        have hS : va_S (zAb B) s.heap s.heap [] := va_S.rf
        have hgr : s.heap.size ≤ s.heap.size := Nat.le_refl _
        have hl := lv_entry ([.ref (h 0), .int time]) (n := 4) (Nat.le_of_ble_eq_true rfl)
        rw [lg_entry_eq]
        generalize (lg_sl ([.ref (h 0), .int time]) ++ List.replicate (4 - (lg_sl ([.ref (h 0), .int time])).length) Slot.unset).toArray = ls at hl ⊢
        have hl : lv_has ls 4 [(0, .ref (h 0)), (1, .int time)] := hl
        have hinX5 : ∀ w ∈ wsX50, w ∈ wsX5_tryLetter := fun _ h => List.mem_cons_of_mem _ (List.mem_append_right _ h)
        have hP : va_P D vwCl (zWM cI cJ cZ h th (n, L) ((zcb kt pt), (zcb km pm), (zcb kl pl)) mc (run, wc, nu, lc, le, af, tr, (ms9 + 1), cl, tm) (co, yn, yh, pa) ++ R) s.heap := hP
        have hD : va_D (zAb B) (zWM cI cJ cZ h th (n, L) ((zcb kt pt), (zcb km pm), (zcb kl pl)) mc (run, wc, nu, lc, le, af, tr, (ms9 + 1), cl, tm) (co, yn, yh, pa) ++ R) := hD
        have hb1 := ho1 rfl
        have hf : tr + 1 < lc := hf
        refine lv_aload_n hx hb dX5_tryLetter_0 rfl (lv_at hl 0 rfl) ?_
        refine va_get (ci := 5) (v := .int (nI (ms9 + 1))) (C := RX5) (T := TX5) (N := 20) hx hb hts hinX5 hown hK hP 0 rfl rfl 14 (by decide) (hts (.fieldLink RX5 113 "TypingTutorModel" "slips" "I") (List.mem_of_getElem? (i := 1) rfl)) (fun _ h9 => h9) rfl dX5_tryLetter_1 ?_
        refine lv_if_ne (tgt := 11) hx hb dX5_tryLetter_4 (by decide) (fun c_47 => ?_) (fun c_47 => ?_)
        · skip
          have c_47 : ¬ (ms9 + 1) = 0 := fun hh => c_47 ((nI_eq (a := (ms9 + 1)) (b := 0) (by omega) (by omega)).mpr hh)
          refine lv_iconst (v := 0) hx hb dX5_tryLetter_11 (by decide) ?_
          refine lv_istore_n (lv' := [(2, .int 0), (0, .ref (h 0)), (1, .int time)]) hx hb dX5_tryLetter_12 rfl hl (by decide) rfl (fun ls hl => ?_)
          refine lv_iload_n hx hb dX5_tryLetter_13 rfl (lv_at hl 0 rfl) ?_
          refine lv_if_eq (tgt := 31) hx hb dX5_tryLetter_14 (by decide) (fun c_48 => ?_) (fun c_48 => ?_)
          · skip
            refine lv_iconst (v := 0) hx hb dX5_tryLetter_31 (by decide) ?_
            refine lv_istore_n (lv' := [(3, .int 0), (2, .int 0), (0, .ref (h 0)), (1, .int time)]) hx hb dX5_tryLetter_32 rfl hl (by decide) rfl (fun ls hl => ?_)
            refine lv_aload_n hx hb dX5_tryLetter_33 rfl (lv_at hl 2 rfl) ?_
            refine lv_aload_n hx hb dX5_tryLetter_34 rfl (lv_at hl 2 rfl) ?_
            refine va_get (ci := 5) (v := .ref (h 7)) (C := RX5) (T := TX5) (N := 20) hx hb hts hinX5 hown hK hP 0 rfl rfl 11 (by decide) (hts (.fieldLink RX5 29 "TypingTutorModel" "text" "[I") (List.mem_of_getElem? (i := 6) rfl)) (fun _ h9 => h9) rfl dX5_tryLetter_35 ?_
            refine lv_aload_n hx hb dX5_tryLetter_38 rfl (lv_at hl 2 rfl) ?_
            refine va_get (ci := 5) (v := .int (nI tr)) (C := RX5) (T := TX5) (N := 20) hx hb hts hinX5 hown hK hP 0 rfl rfl 13 (by decide) (hts (.fieldLink RX5 110 "TypingTutorModel" "at" "I") (List.mem_of_getElem? (i := 7) rfl)) (fun _ h9 => h9) rfl dX5_tryLetter_39 ?_
            refine va_iald hx hb hK hP 7 0 rfl rfl (vp_in_nI (n := tr) (N := 48) (by omega) (by omega)) dX5_tryLetter_42 ?_
            rw [pk_cl (x := (nI tr)) tr (rfl) (by omega)]
            refine lv_topi (fun v_49 ev_49 => ?_)
            obtain rfl : v_49 = (nI x) := ev_49.trans (hx9)
            refine lv_iload_n hx hb dX5_tryLetter_43 rfl (lv_at hl 1 rfl) ?_
            refine lv_iload_n hx hb dX5_tryLetter_44 rfl (lv_at hl 0 rfl) ?_
            refine zcv (zrV (As := [.int (nI x), .int 0, .int 0]) (rest := []) ⟨hx, hb, hml, hown, hts⟩ (zV 0 hP hD hK hE hB hS rfl rfl) (c_X5_learn_k (k := x) (b := false) (by omega)) (cwV 3 hts gX5_tryLetter_X5_learn rfl rfl rfl hdv_X5_learn ⟨Nat.le_of_ble_eq_true rfl, Nat.le_of_ble_eq_true rfl⟩) rfl rfl hl.1 rfl (lv_room (Nat.le_of_ble_eq_true rfl)) dX5_tryLetter_45 ⟨Nat.le_of_ble_eq_true rfl, Nat.le_of_ble_eq_true rfl⟩) hS (fun H locs hP hD hS => ?_)
            have hP : va_P D vwCl (zWM cI cJ cZ h th (n, L) ((zcb (zkt kt x) pt), (zcb (zkm false km x) pm), (zcb (upd kl x (zlv (kl x) 0)) pl)) mc (run, wc, nu, lc, le, af, tr, (ms9 + 1), cl, tm) (co, yn, yh, pa) ++ R) _ := hP
            have hD : va_D (zAb B) (zWM cI cJ cZ h th (n, L) ((zcb (zkt kt x) pt), (zcb (zkm false km x) pm), (zcb (upd kl x (zlv (kl x) 0)) pl)) mc (run, wc, nu, lc, le, af, tr, (ms9 + 1), cl, tm) (co, yn, yh, pa) ++ R) := hD
            refine lv_aload_n hx hb dX5_tryLetter_48 rfl (lv_at hl 2 rfl) ?_
            refine va_get (ci := 5) (v := .ref (h 8)) (C := RX5) (T := TX5) (N := 20) hx hb hts hinX5 hown hK hP 0 rfl rfl 12 (by decide) (hts (.fieldLink RX5 32 "TypingTutorModel" "areFirst" "[Z") (List.mem_of_getElem? (i := 8) rfl)) (fun _ h9 => h9) rfl dX5_tryLetter_49 ?_
            refine lv_aload_n hx hb dX5_tryLetter_52 rfl (lv_at hl 2 rfl) ?_
            refine va_get (ci := 5) (v := .int (nI tr)) (C := RX5) (T := TX5) (N := 20) hx hb hts hinX5 hown hK hP 0 rfl rfl 13 (by decide) (hts (.fieldLink RX5 110 "TypingTutorModel" "at" "I") (List.mem_of_getElem? (i := 7) rfl)) (fun _ h9 => h9) rfl dX5_tryLetter_53 ?_
            refine va_zald hx hb hK hP 8 2 rfl rfl (vp_in_nI (n := tr) (N := 49) (by omega) (by omega)) dX5_tryLetter_56 ?_
            rw [pk_cl (x := (nI tr)) tr (rfl) (by omega)]
            refine lv_if_ne (tgt := 89) hx hb dX5_tryLetter_57 (by decide) (fun c_50 => ?_) (fun c_50 => ?_)
            · skip
              refine lv_aload_n hx hb dX5_tryLetter_89 rfl (lv_at hl 2 rfl) ?_
              refine lv_dup hx hb dX5_tryLetter_90 rfl ?_
              refine va_get (ci := 5) (v := .int (nI cl)) (C := RX5) (T := TX5) (N := 20) hx hb hts hinX5 hown hK hP 0 rfl rfl 15 (by decide) (hts (.fieldLink RX5 116 "TypingTutorModel" "clean" "I") (List.mem_of_getElem? (i := 9) rfl)) (fun _ h9 => h9) rfl dX5_tryLetter_91 ?_
              refine lv_iload_n hx hb dX5_tryLetter_94 rfl (lv_at hl 1 rfl) ?_
              refine lv_if_eq (tgt := 102) hx hb dX5_tryLetter_95 (by decide) (fun c_51 => ?_) (fun c_51 => ?_)
              · skip
                refine lv_iconst (v := 0) hx hb dX5_tryLetter_102 (by decide) ?_
                refine lv_iadd hx hb dX5_tryLetter_103 ?_
                refine lv_topi (fun v_52 ev_52 => ?_)
                obtain rfl : v_52 = (nI (cl + 0)) := ev_52.trans (nI_add cl 0)
                refine va_put (ci := 5) (v := .int (nI (cl + 0))) (ty := .int) (C := RX5) (T := TX5) (N := 20) hx hb hts hinX5 tyX5 tyX5_ok nmX5 hown hK hP hD hS 0 rfl rfl 15 (by decide) (hts (.fieldLink RX5 116 "TypingTutorModel" "clean" "I") (List.mem_of_getElem? (i := 9) rfl)) (fun _ h9 => h9) rfl (by decide +kernel) rfl rfl (Nat.le_of_ble_eq_true rfl) dX5_tryLetter_104 (fun H locs hP hD hS => ?_)
                have hP : va_P D vwCl (zWM cI cJ cZ h th (n, L) ((zcb (zkt kt x) pt), (zcb (zkm false km x) pm), (zcb (upd kl x (zlv (kl x) 0)) pl)) mc (run, wc, nu, lc, le, af, tr, (ms9 + 1), (cl + 0), tm) (co, yn, yh, pa) ++ R) _ := hP
                have hD : va_D (zAb B) (zWM cI cJ cZ h th (n, L) ((zcb (zkt kt x) pt), (zcb (zkm false km x) pm), (zcb (upd kl x (zlv (kl x) 0)) pl)) mc (run, wc, nu, lc, le, af, tr, (ms9 + 1), (cl + 0), tm) (co, yn, yh, pa) ++ R) := hD
                refine lv_aload_n hx hb dX5_tryLetter_107 rfl (lv_at hl 2 rfl) ?_
                refine lv_iconst (v := 0) hx hb dX5_tryLetter_108 (by decide) ?_
                refine va_put (ci := 5) (v := .int 0) (ty := .int) (C := RX5) (T := TX5) (N := 20) hx hb hts hinX5 tyX5 tyX5_ok nmX5 hown hK hP hD hS 0 rfl rfl 14 (by decide) (hts (.fieldLink RX5 113 "TypingTutorModel" "slips" "I") (List.mem_of_getElem? (i := 1) rfl)) (fun _ h9 => h9) rfl (by decide +kernel) rfl rfl (Nat.le_of_ble_eq_true rfl) dX5_tryLetter_109 (fun H locs hP hD hS => ?_)
                have hP : va_P D vwCl (zWM cI cJ cZ h th (n, L) ((zcb (zkt kt x) pt), (zcb (zkm false km x) pm), (zcb (upd kl x (zlv (kl x) 0)) pl)) mc (run, wc, nu, lc, le, af, tr, 0, (cl + 0), tm) (co, yn, yh, pa) ++ R) _ := hP
                have hD : va_D (zAb B) (zWM cI cJ cZ h th (n, L) ((zcb (zkt kt x) pt), (zcb (zkm false km x) pm), (zcb (upd kl x (zlv (kl x) 0)) pl)) mc (run, wc, nu, lc, le, af, tr, 0, (cl + 0), tm) (co, yn, yh, pa) ++ R) := hD
                refine lv_aload_n hx hb dX5_tryLetter_112 rfl (lv_at hl 2 rfl) ?_
                refine lv_dup hx hb dX5_tryLetter_113 rfl ?_
                refine va_get (ci := 5) (v := .int (nI tr)) (C := RX5) (T := TX5) (N := 20) hx hb hts hinX5 hown hK hP 0 rfl rfl 13 (by decide) (hts (.fieldLink RX5 110 "TypingTutorModel" "at" "I") (List.mem_of_getElem? (i := 7) rfl)) (fun _ h9 => h9) rfl dX5_tryLetter_114 ?_
                refine lv_iconst (v := 1) hx hb dX5_tryLetter_117 (by decide) ?_
                refine lv_iadd hx hb dX5_tryLetter_118 ?_
                refine lv_topi (fun v_53 ev_53 => ?_)
                obtain rfl : v_53 = (nI (tr + 1)) := ev_53.trans (nI_add tr 1)
                refine va_put (ci := 5) (v := .int (nI (tr + 1))) (ty := .int) (C := RX5) (T := TX5) (N := 20) hx hb hts hinX5 tyX5 tyX5_ok nmX5 hown hK hP hD hS 0 rfl rfl 13 (by decide) (hts (.fieldLink RX5 110 "TypingTutorModel" "at" "I") (List.mem_of_getElem? (i := 7) rfl)) (fun _ h9 => h9) rfl (by decide +kernel) rfl rfl (Nat.le_of_ble_eq_true rfl) dX5_tryLetter_119 (fun H locs hP hD hS => ?_)
                have hP : va_P D vwCl (zWM cI cJ cZ h th (n, L) ((zcb (zkt kt x) pt), (zcb (zkm false km x) pm), (zcb (upd kl x (zlv (kl x) 0)) pl)) mc (run, wc, nu, lc, le, af, (tr + 1), 0, (cl + 0), tm) (co, yn, yh, pa) ++ R) _ := hP
                have hD : va_D (zAb B) (zWM cI cJ cZ h th (n, L) ((zcb (zkt kt x) pt), (zcb (zkm false km x) pm), (zcb (upd kl x (zlv (kl x) 0)) pl)) mc (run, wc, nu, lc, le, af, (tr + 1), 0, (cl + 0), tm) (co, yn, yh, pa) ++ R) := hD
                refine lv_aload_n hx hb dX5_tryLetter_122 rfl (lv_at hl 2 rfl) ?_
                refine va_get (ci := 5) (v := .int (nI (tr + 1))) (C := RX5) (T := TX5) (N := 20) hx hb hts hinX5 hown hK hP 0 rfl rfl 13 (by decide) (hts (.fieldLink RX5 110 "TypingTutorModel" "at" "I") (List.mem_of_getElem? (i := 7) rfl)) (fun _ h9 => h9) rfl dX5_tryLetter_123 ?_
                refine lv_aload_n hx hb dX5_tryLetter_126 rfl (lv_at hl 2 rfl) ?_
                refine va_get (ci := 5) (v := .int (nI lc)) (C := RX5) (T := TX5) (N := 20) hx hb hts hinX5 hown hK hP 0 rfl rfl 10 (by decide) (hts (.fieldLink RX5 103 "TypingTutorModel" "letters" "I") (List.mem_of_getElem? (i := 10) rfl)) (fun _ h9 => h9) rfl dX5_tryLetter_127 ?_
                refine lv_icmp_ne (tgt := 137) hx hb dX5_tryLetter_130 (by decide) (fun c_54 => ?_) (fun c_54 => ?_)
                · skip
                  have c_54 : ¬ (tr + 1) = lc := fun hh => c_54 ((nI_eq (a := (tr + 1)) (b := lc) (by omega) (by omega)).mpr hh)
                  refine W.widen (k := 1) (n := 1536) (Nat.le_of_ble_eq_true rfl) (Nat.le_of_ble_eq_true rfl) ?_
                  exact W.vret hx hb hr (fun t ht hW => ⟨⟨(h 9), rfl, trivial, by rw [ht]; exact hP, hD⟩, hS.F ht⟩) hS.2.2 dX5_tryLetter_137
                · skip
                  have c_54 : (tr + 1) = lc := (nI_eq (a := (tr + 1)) (b := lc) (by omega) (by omega)).mp c_54
                  omega
              · skip
                exfalso; first | omega | (revert c_51; decide) | (exact absurd rfl c_51) | simp_all
            · skip
              exact absurd c_50 hb1
          · skip
            exfalso; first | omega | (revert c_48; decide) | (exact absurd rfl c_48) | simp_all
        · skip
          have c_47 : (ms9 + 1) = 0 := (nI_eq (a := (ms9 + 1)) (b := 0) (by omega) (by omega)).mp c_47
          omega
    | some o9 =>
      cases fin with
      | true =>
        refine Met.ofW (cc := cX5_tryLetter) (maxL := 4) (ret := none) (by decide) rfl ?_
        intro p e s m args below meth c s₁ B0 hml hv
        obtain ⟨rfl, hP, hD, hK, hE, hB⟩ := hv
        have hx := B0.exec
        have hb := B0.bytes
        have hr := B0.returns
        have hts := atoms_spec (ws := wsX5_tryLetter) B0.pre
        have hown : s.vm.findClass RX5 = some m.cls := findClass_of_methodNamed B0.named
        have hlocks := B0.notSynchronized
        have hA : ∀ q : Nat, s.heap.size ≤ q → zAb B q := fun q hq => Nat.le_trans hB hq
        have hS : va_S (zAb B) s.heap s.heap [] := va_S.rf
        have hgr : s.heap.size ≤ s.heap.size := Nat.le_refl _
        have hl := lv_entry ([.ref (h 0), .int time]) (n := 4) (Nat.le_of_ble_eq_true rfl)
        rw [lg_entry_eq]
        generalize (lg_sl ([.ref (h 0), .int time]) ++ List.replicate (4 - (lg_sl ([.ref (h 0), .int time])).length) Slot.unset).toArray = ls at hl ⊢
        have hl : lv_has ls 4 [(0, .ref (h 0)), (1, .int time)] := hl
        have hinX5 : ∀ w ∈ wsX50, w ∈ wsX5_tryLetter := fun _ h => List.mem_cons_of_mem _ (List.mem_append_right _ h)
        have hP : va_P D vwCl (zWM cI cJ cZ h th (n, L) ((zcb kt pt), (zcb km pm), (zcb kl pl)) mc (run, wc, nu, lc, le, af, tr, (ms9 + 1), cl, tm) (co, yn, yh, pa) ++ R) s.heap := hP
        have hD : va_D (zAb B) (zWM cI cJ cZ h th (n, L) ((zcb kt pt), (zcb km pm), (zcb kl pl)) mc (run, wc, nu, lc, le, af, tr, (ms9 + 1), cl, tm) (co, yn, yh, pa) ++ R) := hD
        obtain ⟨hb1, hb2, hb3, hy⟩ := ho2 o9 rfl
        have hf : tr + 1 = lc := hf
        refine lv_aload_n hx hb dX5_tryLetter_0 rfl (lv_at hl 0 rfl) ?_
        refine va_get (ci := 5) (v := .int (nI (ms9 + 1))) (C := RX5) (T := TX5) (N := 20) hx hb hts hinX5 hown hK hP 0 rfl rfl 14 (by decide) (hts (.fieldLink RX5 113 "TypingTutorModel" "slips" "I") (List.mem_of_getElem? (i := 1) rfl)) (fun _ h9 => h9) rfl dX5_tryLetter_1 ?_
        refine lv_if_ne (tgt := 11) hx hb dX5_tryLetter_4 (by decide) (fun c_55 => ?_) (fun c_55 => ?_)
        · skip
          have c_55 : ¬ (ms9 + 1) = 0 := fun hh => c_55 ((nI_eq (a := (ms9 + 1)) (b := 0) (by omega) (by omega)).mpr hh)
          refine lv_iconst (v := 0) hx hb dX5_tryLetter_11 (by decide) ?_
          refine lv_istore_n (lv' := [(2, .int 0), (0, .ref (h 0)), (1, .int time)]) hx hb dX5_tryLetter_12 rfl hl (by decide) rfl (fun ls hl => ?_)
          refine lv_iload_n hx hb dX5_tryLetter_13 rfl (lv_at hl 0 rfl) ?_
          refine lv_if_eq (tgt := 31) hx hb dX5_tryLetter_14 (by decide) (fun c_56 => ?_) (fun c_56 => ?_)
          · skip
            refine lv_iconst (v := 0) hx hb dX5_tryLetter_31 (by decide) ?_
            refine lv_istore_n (lv' := [(3, .int 0), (2, .int 0), (0, .ref (h 0)), (1, .int time)]) hx hb dX5_tryLetter_32 rfl hl (by decide) rfl (fun ls hl => ?_)
            refine lv_aload_n hx hb dX5_tryLetter_33 rfl (lv_at hl 2 rfl) ?_
            refine lv_aload_n hx hb dX5_tryLetter_34 rfl (lv_at hl 2 rfl) ?_
            refine va_get (ci := 5) (v := .ref (h 7)) (C := RX5) (T := TX5) (N := 20) hx hb hts hinX5 hown hK hP 0 rfl rfl 11 (by decide) (hts (.fieldLink RX5 29 "TypingTutorModel" "text" "[I") (List.mem_of_getElem? (i := 6) rfl)) (fun _ h9 => h9) rfl dX5_tryLetter_35 ?_
            refine lv_aload_n hx hb dX5_tryLetter_38 rfl (lv_at hl 2 rfl) ?_
            refine va_get (ci := 5) (v := .int (nI tr)) (C := RX5) (T := TX5) (N := 20) hx hb hts hinX5 hown hK hP 0 rfl rfl 13 (by decide) (hts (.fieldLink RX5 110 "TypingTutorModel" "at" "I") (List.mem_of_getElem? (i := 7) rfl)) (fun _ h9 => h9) rfl dX5_tryLetter_39 ?_
            refine va_iald hx hb hK hP 7 0 rfl rfl (vp_in_nI (n := tr) (N := 48) (by omega) (by omega)) dX5_tryLetter_42 ?_
            rw [pk_cl (x := (nI tr)) tr (rfl) (by omega)]
            refine lv_topi (fun v_57 ev_57 => ?_)
            obtain rfl : v_57 = (nI x) := ev_57.trans (hx9)
            refine lv_iload_n hx hb dX5_tryLetter_43 rfl (lv_at hl 1 rfl) ?_
            refine lv_iload_n hx hb dX5_tryLetter_44 rfl (lv_at hl 0 rfl) ?_
            refine zcv (zrV (As := [.int (nI x), .int 0, .int 0]) (rest := []) ⟨hx, hb, hml, hown, hts⟩ (zV 0 hP hD hK hE hB hS rfl rfl) (c_X5_learn_k (k := x) (b := false) (by omega)) (cwV 3 hts gX5_tryLetter_X5_learn rfl rfl rfl hdv_X5_learn ⟨Nat.le_of_ble_eq_true rfl, Nat.le_of_ble_eq_true rfl⟩) rfl rfl hl.1 rfl (lv_room (Nat.le_of_ble_eq_true rfl)) dX5_tryLetter_45 ⟨Nat.le_of_ble_eq_true rfl, Nat.le_of_ble_eq_true rfl⟩) hS (fun H locs hP hD hS => ?_)
            have hP : va_P D vwCl (zWM cI cJ cZ h th (n, L) ((zcb (zkt kt x) pt), (zcb (zkm false km x) pm), (zcb (upd kl x (zlv (kl x) 0)) pl)) mc (run, wc, nu, lc, le, af, tr, (ms9 + 1), cl, tm) (co, yn, yh, pa) ++ R) _ := hP
            have hD : va_D (zAb B) (zWM cI cJ cZ h th (n, L) ((zcb (zkt kt x) pt), (zcb (zkm false km x) pm), (zcb (upd kl x (zlv (kl x) 0)) pl)) mc (run, wc, nu, lc, le, af, tr, (ms9 + 1), cl, tm) (co, yn, yh, pa) ++ R) := hD
            refine lv_aload_n hx hb dX5_tryLetter_48 rfl (lv_at hl 2 rfl) ?_
            refine va_get (ci := 5) (v := .ref (h 8)) (C := RX5) (T := TX5) (N := 20) hx hb hts hinX5 hown hK hP 0 rfl rfl 12 (by decide) (hts (.fieldLink RX5 32 "TypingTutorModel" "areFirst" "[Z") (List.mem_of_getElem? (i := 8) rfl)) (fun _ h9 => h9) rfl dX5_tryLetter_49 ?_
            refine lv_aload_n hx hb dX5_tryLetter_52 rfl (lv_at hl 2 rfl) ?_
            refine va_get (ci := 5) (v := .int (nI tr)) (C := RX5) (T := TX5) (N := 20) hx hb hts hinX5 hown hK hP 0 rfl rfl 13 (by decide) (hts (.fieldLink RX5 110 "TypingTutorModel" "at" "I") (List.mem_of_getElem? (i := 7) rfl)) (fun _ h9 => h9) rfl dX5_tryLetter_53 ?_
            refine va_zald hx hb hK hP 8 2 rfl rfl (vp_in_nI (n := tr) (N := 49) (by omega) (by omega)) dX5_tryLetter_56 ?_
            rw [pk_cl (x := (nI tr)) tr (rfl) (by omega)]
            refine lv_if_ne (tgt := 89) hx hb dX5_tryLetter_57 (by decide) (fun c_58 => ?_) (fun c_58 => ?_)
            · skip
              exact absurd hb1 c_58
            · skip
              refine lv_aload_n hx hb dX5_tryLetter_60 rfl (lv_at hl 2 rfl) ?_
              refine lv_aload_n hx hb dX5_tryLetter_61 rfl (lv_at hl 2 rfl) ?_
              refine va_get (ci := 5) (v := .ref (h 7)) (C := RX5) (T := TX5) (N := 20) hx hb hts hinX5 hown hK hP 0 rfl rfl 11 (by decide) (hts (.fieldLink RX5 29 "TypingTutorModel" "text" "[I") (List.mem_of_getElem? (i := 6) rfl)) (fun _ h9 => h9) rfl dX5_tryLetter_62 ?_
              refine lv_aload_n hx hb dX5_tryLetter_65 rfl (lv_at hl 2 rfl) ?_
              refine va_get (ci := 5) (v := .int (nI tr)) (C := RX5) (T := TX5) (N := 20) hx hb hts hinX5 hown hK hP 0 rfl rfl 13 (by decide) (hts (.fieldLink RX5 110 "TypingTutorModel" "at" "I") (List.mem_of_getElem? (i := 7) rfl)) (fun _ h9 => h9) rfl dX5_tryLetter_66 ?_
              refine lv_iconst (v := 1) hx hb dX5_tryLetter_69 (by decide) ?_
              refine lv_isub hx hb dX5_tryLetter_70 ?_
              refine lv_topi (fun v_59 ev_59 => ?_)
              obtain rfl : v_59 = (nI (tr - 1)) := ev_59.trans (pk_sub (a := tr) (b := 1) (by omega))
              refine va_iald hx hb hK hP 7 0 rfl rfl (vp_in_nI (n := (tr - 1)) (N := 48) (by omega) (by omega)) dX5_tryLetter_71 ?_
              rw [pk_cl (x := (nI (tr - 1))) (tr - 1) (rfl) (by omega)]
              refine lv_topi (fun v_60 ev_60 => ?_)
              obtain rfl : v_60 = (nI o9) := ev_60.trans (hb3)
              refine lv_aload_n hx hb dX5_tryLetter_72 rfl (lv_at hl 2 rfl) ?_
              refine va_get (ci := 5) (v := .ref (h 7)) (C := RX5) (T := TX5) (N := 20) hx hb hts hinX5 hown hK hP 0 rfl rfl 11 (by decide) (hts (.fieldLink RX5 29 "TypingTutorModel" "text" "[I") (List.mem_of_getElem? (i := 6) rfl)) (fun _ h9 => h9) rfl dX5_tryLetter_73 ?_
              refine lv_aload_n hx hb dX5_tryLetter_76 rfl (lv_at hl 2 rfl) ?_
              refine va_get (ci := 5) (v := .int (nI tr)) (C := RX5) (T := TX5) (N := 20) hx hb hts hinX5 hown hK hP 0 rfl rfl 13 (by decide) (hts (.fieldLink RX5 110 "TypingTutorModel" "at" "I") (List.mem_of_getElem? (i := 7) rfl)) (fun _ h9 => h9) rfl dX5_tryLetter_77 ?_
              refine va_iald hx hb hK hP 7 0 rfl rfl (vp_in_nI (n := tr) (N := 48) (by omega) (by omega)) dX5_tryLetter_80 ?_
              rw [pk_cl (x := (nI tr)) tr (rfl) (by omega)]
              refine lv_topi (fun v_61 ev_61 => ?_)
              obtain rfl : v_61 = (nI x) := ev_61.trans (hx9)
              refine zci (zrS (As := [.int (nI o9), .int (nI x)]) (rest := [.ref (h 0)]) ⟨hx, hb, hml, hown, hts⟩ (zS hP hD hK hE hB hS) (c_X5_pairOf (a := o9) (b := x) ) (va_cwS 2 hts gX5_tryLetter_X5_pairOf rfl rfl rfl hds_X5_pairOf ⟨Nat.le_of_ble_eq_true rfl, Nat.le_of_ble_eq_true rfl⟩) rfl rfl hl.1 rfl (lv_room (Nat.le_of_ble_eq_true rfl)) dX5_tryLetter_81 ⟨Nat.le_of_ble_eq_true rfl, Nat.le_of_ble_eq_true rfl⟩) hS (fun H locs hP hD hS => ?_)
              have hP : va_P D vwCl (zWM cI cJ cZ h th (n, L) ((zcb (zkt kt x) pt), (zcb (zkm false km x) pm), (zcb (upd kl x (zlv (kl x) 0)) pl)) mc (run, wc, nu, lc, le, af, tr, (ms9 + 1), cl, tm) (co, yn, yh, pa) ++ R) _ := hP
              have hD : va_D (zAb B) (zWM cI cJ cZ h th (n, L) ((zcb (zkt kt x) pt), (zcb (zkm false km x) pm), (zcb (upd kl x (zlv (kl x) 0)) pl)) mc (run, wc, nu, lc, le, af, tr, (ms9 + 1), cl, tm) (co, yn, yh, pa) ++ R) := hD
              refine lv_iload_n hx hb dX5_tryLetter_84 rfl (lv_at hl 1 rfl) ?_
              refine lv_iload_n hx hb dX5_tryLetter_85 rfl (lv_at hl 0 rfl) ?_
              refine zcv (zrV (As := [.int (nI (26 + (26 * o9 + x))), .int 0, .int 0]) (rest := []) ⟨hx, hb, hml, hown, hts⟩ (zV 0 hP hD hK hE hB hS rfl rfl) (c_X5_learn_p (b := false) (k := (26 * o9 + x)) (by omega)) (cwV 3 hts gX5_tryLetter_X5_learn rfl rfl rfl hdv_X5_learn ⟨Nat.le_of_ble_eq_true rfl, Nat.le_of_ble_eq_true rfl⟩) rfl rfl hl.1 rfl (lv_room (Nat.le_of_ble_eq_true rfl)) dX5_tryLetter_86 ⟨Nat.le_of_ble_eq_true rfl, Nat.le_of_ble_eq_true rfl⟩) hS (fun H locs hP hD hS => ?_)
              have hP : va_P D vwCl (zWM cI cJ cZ h th (n, L) ((zcb (zkt kt x) (zkt pt (26 * o9 + x))), (zcb (zkm false km x) (zkm false pm (26 * o9 + x))), (zcb (upd kl x (zlv (kl x) 0)) (upd pl (26 * o9 + x) (zlv (pl (26 * o9 + x)) 0)))) mc (run, wc, nu, lc, le, af, tr, (ms9 + 1), cl, tm) (co, yn, yh, pa) ++ R) _ := hP
              have hD : va_D (zAb B) (zWM cI cJ cZ h th (n, L) ((zcb (zkt kt x) (zkt pt (26 * o9 + x))), (zcb (zkm false km x) (zkm false pm (26 * o9 + x))), (zcb (upd kl x (zlv (kl x) 0)) (upd pl (26 * o9 + x) (zlv (pl (26 * o9 + x)) 0)))) mc (run, wc, nu, lc, le, af, tr, (ms9 + 1), cl, tm) (co, yn, yh, pa) ++ R) := hD
              refine lv_aload_n hx hb dX5_tryLetter_89 rfl (lv_at hl 2 rfl) ?_
              refine lv_dup hx hb dX5_tryLetter_90 rfl ?_
              refine va_get (ci := 5) (v := .int (nI cl)) (C := RX5) (T := TX5) (N := 20) hx hb hts hinX5 hown hK hP 0 rfl rfl 15 (by decide) (hts (.fieldLink RX5 116 "TypingTutorModel" "clean" "I") (List.mem_of_getElem? (i := 9) rfl)) (fun _ h9 => h9) rfl dX5_tryLetter_91 ?_
              refine lv_iload_n hx hb dX5_tryLetter_94 rfl (lv_at hl 1 rfl) ?_
              refine lv_if_eq (tgt := 102) hx hb dX5_tryLetter_95 (by decide) (fun c_62 => ?_) (fun c_62 => ?_)
              · skip
                refine lv_iconst (v := 0) hx hb dX5_tryLetter_102 (by decide) ?_
                refine lv_iadd hx hb dX5_tryLetter_103 ?_
                refine lv_topi (fun v_63 ev_63 => ?_)
                obtain rfl : v_63 = (nI (cl + 0)) := ev_63.trans (nI_add cl 0)
                refine va_put (ci := 5) (v := .int (nI (cl + 0))) (ty := .int) (C := RX5) (T := TX5) (N := 20) hx hb hts hinX5 tyX5 tyX5_ok nmX5 hown hK hP hD hS 0 rfl rfl 15 (by decide) (hts (.fieldLink RX5 116 "TypingTutorModel" "clean" "I") (List.mem_of_getElem? (i := 9) rfl)) (fun _ h9 => h9) rfl (by decide +kernel) rfl rfl (Nat.le_of_ble_eq_true rfl) dX5_tryLetter_104 (fun H locs hP hD hS => ?_)
                have hP : va_P D vwCl (zWM cI cJ cZ h th (n, L) ((zcb (zkt kt x) (zkt pt (26 * o9 + x))), (zcb (zkm false km x) (zkm false pm (26 * o9 + x))), (zcb (upd kl x (zlv (kl x) 0)) (upd pl (26 * o9 + x) (zlv (pl (26 * o9 + x)) 0)))) mc (run, wc, nu, lc, le, af, tr, (ms9 + 1), (cl + 0), tm) (co, yn, yh, pa) ++ R) _ := hP
                have hD : va_D (zAb B) (zWM cI cJ cZ h th (n, L) ((zcb (zkt kt x) (zkt pt (26 * o9 + x))), (zcb (zkm false km x) (zkm false pm (26 * o9 + x))), (zcb (upd kl x (zlv (kl x) 0)) (upd pl (26 * o9 + x) (zlv (pl (26 * o9 + x)) 0)))) mc (run, wc, nu, lc, le, af, tr, (ms9 + 1), (cl + 0), tm) (co, yn, yh, pa) ++ R) := hD
                refine lv_aload_n hx hb dX5_tryLetter_107 rfl (lv_at hl 2 rfl) ?_
                refine lv_iconst (v := 0) hx hb dX5_tryLetter_108 (by decide) ?_
                refine va_put (ci := 5) (v := .int 0) (ty := .int) (C := RX5) (T := TX5) (N := 20) hx hb hts hinX5 tyX5 tyX5_ok nmX5 hown hK hP hD hS 0 rfl rfl 14 (by decide) (hts (.fieldLink RX5 113 "TypingTutorModel" "slips" "I") (List.mem_of_getElem? (i := 1) rfl)) (fun _ h9 => h9) rfl (by decide +kernel) rfl rfl (Nat.le_of_ble_eq_true rfl) dX5_tryLetter_109 (fun H locs hP hD hS => ?_)
                have hP : va_P D vwCl (zWM cI cJ cZ h th (n, L) ((zcb (zkt kt x) (zkt pt (26 * o9 + x))), (zcb (zkm false km x) (zkm false pm (26 * o9 + x))), (zcb (upd kl x (zlv (kl x) 0)) (upd pl (26 * o9 + x) (zlv (pl (26 * o9 + x)) 0)))) mc (run, wc, nu, lc, le, af, tr, 0, (cl + 0), tm) (co, yn, yh, pa) ++ R) _ := hP
                have hD : va_D (zAb B) (zWM cI cJ cZ h th (n, L) ((zcb (zkt kt x) (zkt pt (26 * o9 + x))), (zcb (zkm false km x) (zkm false pm (26 * o9 + x))), (zcb (upd kl x (zlv (kl x) 0)) (upd pl (26 * o9 + x) (zlv (pl (26 * o9 + x)) 0)))) mc (run, wc, nu, lc, le, af, tr, 0, (cl + 0), tm) (co, yn, yh, pa) ++ R) := hD
                refine lv_aload_n hx hb dX5_tryLetter_112 rfl (lv_at hl 2 rfl) ?_
                refine lv_dup hx hb dX5_tryLetter_113 rfl ?_
                refine va_get (ci := 5) (v := .int (nI tr)) (C := RX5) (T := TX5) (N := 20) hx hb hts hinX5 hown hK hP 0 rfl rfl 13 (by decide) (hts (.fieldLink RX5 110 "TypingTutorModel" "at" "I") (List.mem_of_getElem? (i := 7) rfl)) (fun _ h9 => h9) rfl dX5_tryLetter_114 ?_
                refine lv_iconst (v := 1) hx hb dX5_tryLetter_117 (by decide) ?_
                refine lv_iadd hx hb dX5_tryLetter_118 ?_
                refine lv_topi (fun v_64 ev_64 => ?_)
                obtain rfl : v_64 = (nI (tr + 1)) := ev_64.trans (nI_add tr 1)
                refine va_put (ci := 5) (v := .int (nI (tr + 1))) (ty := .int) (C := RX5) (T := TX5) (N := 20) hx hb hts hinX5 tyX5 tyX5_ok nmX5 hown hK hP hD hS 0 rfl rfl 13 (by decide) (hts (.fieldLink RX5 110 "TypingTutorModel" "at" "I") (List.mem_of_getElem? (i := 7) rfl)) (fun _ h9 => h9) rfl (by decide +kernel) rfl rfl (Nat.le_of_ble_eq_true rfl) dX5_tryLetter_119 (fun H locs hP hD hS => ?_)
                have hP : va_P D vwCl (zWM cI cJ cZ h th (n, L) ((zcb (zkt kt x) (zkt pt (26 * o9 + x))), (zcb (zkm false km x) (zkm false pm (26 * o9 + x))), (zcb (upd kl x (zlv (kl x) 0)) (upd pl (26 * o9 + x) (zlv (pl (26 * o9 + x)) 0)))) mc (run, wc, nu, lc, le, af, (tr + 1), 0, (cl + 0), tm) (co, yn, yh, pa) ++ R) _ := hP
                have hD : va_D (zAb B) (zWM cI cJ cZ h th (n, L) ((zcb (zkt kt x) (zkt pt (26 * o9 + x))), (zcb (zkm false km x) (zkm false pm (26 * o9 + x))), (zcb (upd kl x (zlv (kl x) 0)) (upd pl (26 * o9 + x) (zlv (pl (26 * o9 + x)) 0)))) mc (run, wc, nu, lc, le, af, (tr + 1), 0, (cl + 0), tm) (co, yn, yh, pa) ++ R) := hD
                refine lv_aload_n hx hb dX5_tryLetter_122 rfl (lv_at hl 2 rfl) ?_
                refine va_get (ci := 5) (v := .int (nI (tr + 1))) (C := RX5) (T := TX5) (N := 20) hx hb hts hinX5 hown hK hP 0 rfl rfl 13 (by decide) (hts (.fieldLink RX5 110 "TypingTutorModel" "at" "I") (List.mem_of_getElem? (i := 7) rfl)) (fun _ h9 => h9) rfl dX5_tryLetter_123 ?_
                refine lv_aload_n hx hb dX5_tryLetter_126 rfl (lv_at hl 2 rfl) ?_
                refine va_get (ci := 5) (v := .int (nI lc)) (C := RX5) (T := TX5) (N := 20) hx hb hts hinX5 hown hK hP 0 rfl rfl 10 (by decide) (hts (.fieldLink RX5 103 "TypingTutorModel" "letters" "I") (List.mem_of_getElem? (i := 10) rfl)) (fun _ h9 => h9) rfl dX5_tryLetter_127 ?_
                refine lv_icmp_ne (tgt := 137) hx hb dX5_tryLetter_130 (by decide) (fun c_65 => ?_) (fun c_65 => ?_)
                · skip
                  have c_65 : ¬ (tr + 1) = lc := fun hh => c_65 ((nI_eq (a := (tr + 1)) (b := lc) (by omega) (by omega)).mpr hh)
                  omega
                · skip
                  have c_65 : (tr + 1) = lc := (nI_eq (a := (tr + 1)) (b := lc) (by omega) (by omega)).mp c_65
                  refine lv_aload_n hx hb dX5_tryLetter_133 rfl (lv_at hl 2 rfl) ?_
                  refine zcvh (zrV (As := []) (rest := []) ⟨hx, hb, hml, hown, hts⟩ (zV 0 hP hD hK hE hB hS rfl rfl) (c_X5_finish (g := g) (hg) (hco) (hyn) (hy12) (hlc) (by omega)) (cwV 0 hts gX5_tryLetter_X5_finish rfl rfl rfl hdv_X5_finish ⟨Nat.le_of_ble_eq_true rfl, Nat.le_of_ble_eq_true rfl⟩) rfl rfl hl.1 rfl (lv_room (Nat.le_of_ble_eq_true rfl)) dX5_tryLetter_134 ⟨Nat.le_of_ble_eq_true rfl, Nat.le_of_ble_eq_true rfl⟩) hS (fun q9 H locs hP hD hS => ?_)
                  have hP : va_P D vwCl (zWM cI cJ cZ (zh9 h q9) th (n, L) ((zcb (zkt kt x) (zkt pt (26 * o9 + x))), (zcb (zkm false km x) (zkm false pm (26 * o9 + x))), (zcb (upd kl x (zlv (kl x) 0)) (upd pl (26 * o9 + x) (zlv (pl (26 * o9 + x)) 0)))) mc (false, wc, nu, lc, le, af, (tr + 1), 0, (cl + 0), tm) ((co + 1), (zyn g yn), (zh3 (zyh g yh yn) co lc (cl + 0) tm), (zpc pa lc (cl + 0))) ++ R) _ := hP
                  have hD : va_D (zAb B) (zWM cI cJ cZ (zh9 h q9) th (n, L) ((zcb (zkt kt x) (zkt pt (26 * o9 + x))), (zcb (zkm false km x) (zkm false pm (26 * o9 + x))), (zcb (upd kl x (zlv (kl x) 0)) (upd pl (26 * o9 + x) (zlv (pl (26 * o9 + x)) 0)))) mc (false, wc, nu, lc, le, af, (tr + 1), 0, (cl + 0), tm) ((co + 1), (zyn g yn), (zh3 (zyh g yh yn) co lc (cl + 0) tm), (zpc pa lc (cl + 0))) ++ R) := hD
                  exact W.vret hx hb hr (fun t ht hW => ⟨⟨q9, rfl, trivial, by rw [ht]; exact hP, hD⟩, hS.F ht⟩) hS.2.2 dX5_tryLetter_137
              · skip
                exfalso; first | omega | (revert c_62; decide) | (exact absurd rfl c_62) | simp_all
          · skip
            exfalso; first | omega | (revert c_56; decide) | (exact absurd rfl c_56) | simp_all
        · skip
          have c_55 : (ms9 + 1) = 0 := (nI_eq (a := (ms9 + 1)) (b := 0) (by omega) (by omega)).mp c_55
          omega
      | false =>
        refine Met.ofW (cc := cX5_tryLetter) (maxL := 4) (ret := none) (by decide) rfl ?_
        intro p e s m args below meth c s₁ B0 hml hv
        obtain ⟨rfl, hP, hD, hK, hE, hB⟩ := hv
        have hx := B0.exec
        have hb := B0.bytes
        have hr := B0.returns
        have hts := atoms_spec (ws := wsX5_tryLetter) B0.pre
        have hown : s.vm.findClass RX5 = some m.cls := findClass_of_methodNamed B0.named
        have hlocks := B0.notSynchronized
        have hA : ∀ q : Nat, s.heap.size ≤ q → zAb B q := fun q hq => Nat.le_trans hB hq
        have hS : va_S (zAb B) s.heap s.heap [] := va_S.rf
        have hgr : s.heap.size ≤ s.heap.size := Nat.le_refl _
        have hl := lv_entry ([.ref (h 0), .int time]) (n := 4) (Nat.le_of_ble_eq_true rfl)
        rw [lg_entry_eq]
        generalize (lg_sl ([.ref (h 0), .int time]) ++ List.replicate (4 - (lg_sl ([.ref (h 0), .int time])).length) Slot.unset).toArray = ls at hl ⊢
        have hl : lv_has ls 4 [(0, .ref (h 0)), (1, .int time)] := hl
        have hinX5 : ∀ w ∈ wsX50, w ∈ wsX5_tryLetter := fun _ h => List.mem_cons_of_mem _ (List.mem_append_right _ h)
        have hP : va_P D vwCl (zWM cI cJ cZ h th (n, L) ((zcb kt pt), (zcb km pm), (zcb kl pl)) mc (run, wc, nu, lc, le, af, tr, (ms9 + 1), cl, tm) (co, yn, yh, pa) ++ R) s.heap := hP
        have hD : va_D (zAb B) (zWM cI cJ cZ h th (n, L) ((zcb kt pt), (zcb km pm), (zcb kl pl)) mc (run, wc, nu, lc, le, af, tr, (ms9 + 1), cl, tm) (co, yn, yh, pa) ++ R) := hD
        obtain ⟨hb1, hb2, hb3, hy⟩ := ho2 o9 rfl
        have hf : tr + 1 < lc := hf
        refine lv_aload_n hx hb dX5_tryLetter_0 rfl (lv_at hl 0 rfl) ?_
        refine va_get (ci := 5) (v := .int (nI (ms9 + 1))) (C := RX5) (T := TX5) (N := 20) hx hb hts hinX5 hown hK hP 0 rfl rfl 14 (by decide) (hts (.fieldLink RX5 113 "TypingTutorModel" "slips" "I") (List.mem_of_getElem? (i := 1) rfl)) (fun _ h9 => h9) rfl dX5_tryLetter_1 ?_
        refine lv_if_ne (tgt := 11) hx hb dX5_tryLetter_4 (by decide) (fun c_66 => ?_) (fun c_66 => ?_)
        · skip
          have c_66 : ¬ (ms9 + 1) = 0 := fun hh => c_66 ((nI_eq (a := (ms9 + 1)) (b := 0) (by omega) (by omega)).mpr hh)
          refine lv_iconst (v := 0) hx hb dX5_tryLetter_11 (by decide) ?_
          refine lv_istore_n (lv' := [(2, .int 0), (0, .ref (h 0)), (1, .int time)]) hx hb dX5_tryLetter_12 rfl hl (by decide) rfl (fun ls hl => ?_)
          refine lv_iload_n hx hb dX5_tryLetter_13 rfl (lv_at hl 0 rfl) ?_
          refine lv_if_eq (tgt := 31) hx hb dX5_tryLetter_14 (by decide) (fun c_67 => ?_) (fun c_67 => ?_)
          · skip
            refine lv_iconst (v := 0) hx hb dX5_tryLetter_31 (by decide) ?_
            refine lv_istore_n (lv' := [(3, .int 0), (2, .int 0), (0, .ref (h 0)), (1, .int time)]) hx hb dX5_tryLetter_32 rfl hl (by decide) rfl (fun ls hl => ?_)
            refine lv_aload_n hx hb dX5_tryLetter_33 rfl (lv_at hl 2 rfl) ?_
            refine lv_aload_n hx hb dX5_tryLetter_34 rfl (lv_at hl 2 rfl) ?_
            refine va_get (ci := 5) (v := .ref (h 7)) (C := RX5) (T := TX5) (N := 20) hx hb hts hinX5 hown hK hP 0 rfl rfl 11 (by decide) (hts (.fieldLink RX5 29 "TypingTutorModel" "text" "[I") (List.mem_of_getElem? (i := 6) rfl)) (fun _ h9 => h9) rfl dX5_tryLetter_35 ?_
            refine lv_aload_n hx hb dX5_tryLetter_38 rfl (lv_at hl 2 rfl) ?_
            refine va_get (ci := 5) (v := .int (nI tr)) (C := RX5) (T := TX5) (N := 20) hx hb hts hinX5 hown hK hP 0 rfl rfl 13 (by decide) (hts (.fieldLink RX5 110 "TypingTutorModel" "at" "I") (List.mem_of_getElem? (i := 7) rfl)) (fun _ h9 => h9) rfl dX5_tryLetter_39 ?_
            refine va_iald hx hb hK hP 7 0 rfl rfl (vp_in_nI (n := tr) (N := 48) (by omega) (by omega)) dX5_tryLetter_42 ?_
            rw [pk_cl (x := (nI tr)) tr (rfl) (by omega)]
            refine lv_topi (fun v_68 ev_68 => ?_)
            obtain rfl : v_68 = (nI x) := ev_68.trans (hx9)
            refine lv_iload_n hx hb dX5_tryLetter_43 rfl (lv_at hl 1 rfl) ?_
            refine lv_iload_n hx hb dX5_tryLetter_44 rfl (lv_at hl 0 rfl) ?_
            refine zcv (zrV (As := [.int (nI x), .int 0, .int 0]) (rest := []) ⟨hx, hb, hml, hown, hts⟩ (zV 0 hP hD hK hE hB hS rfl rfl) (c_X5_learn_k (k := x) (b := false) (by omega)) (cwV 3 hts gX5_tryLetter_X5_learn rfl rfl rfl hdv_X5_learn ⟨Nat.le_of_ble_eq_true rfl, Nat.le_of_ble_eq_true rfl⟩) rfl rfl hl.1 rfl (lv_room (Nat.le_of_ble_eq_true rfl)) dX5_tryLetter_45 ⟨Nat.le_of_ble_eq_true rfl, Nat.le_of_ble_eq_true rfl⟩) hS (fun H locs hP hD hS => ?_)
            have hP : va_P D vwCl (zWM cI cJ cZ h th (n, L) ((zcb (zkt kt x) pt), (zcb (zkm false km x) pm), (zcb (upd kl x (zlv (kl x) 0)) pl)) mc (run, wc, nu, lc, le, af, tr, (ms9 + 1), cl, tm) (co, yn, yh, pa) ++ R) _ := hP
            have hD : va_D (zAb B) (zWM cI cJ cZ h th (n, L) ((zcb (zkt kt x) pt), (zcb (zkm false km x) pm), (zcb (upd kl x (zlv (kl x) 0)) pl)) mc (run, wc, nu, lc, le, af, tr, (ms9 + 1), cl, tm) (co, yn, yh, pa) ++ R) := hD
            refine lv_aload_n hx hb dX5_tryLetter_48 rfl (lv_at hl 2 rfl) ?_
            refine va_get (ci := 5) (v := .ref (h 8)) (C := RX5) (T := TX5) (N := 20) hx hb hts hinX5 hown hK hP 0 rfl rfl 12 (by decide) (hts (.fieldLink RX5 32 "TypingTutorModel" "areFirst" "[Z") (List.mem_of_getElem? (i := 8) rfl)) (fun _ h9 => h9) rfl dX5_tryLetter_49 ?_
            refine lv_aload_n hx hb dX5_tryLetter_52 rfl (lv_at hl 2 rfl) ?_
            refine va_get (ci := 5) (v := .int (nI tr)) (C := RX5) (T := TX5) (N := 20) hx hb hts hinX5 hown hK hP 0 rfl rfl 13 (by decide) (hts (.fieldLink RX5 110 "TypingTutorModel" "at" "I") (List.mem_of_getElem? (i := 7) rfl)) (fun _ h9 => h9) rfl dX5_tryLetter_53 ?_
            refine va_zald hx hb hK hP 8 2 rfl rfl (vp_in_nI (n := tr) (N := 49) (by omega) (by omega)) dX5_tryLetter_56 ?_
            rw [pk_cl (x := (nI tr)) tr (rfl) (by omega)]
            refine lv_if_ne (tgt := 89) hx hb dX5_tryLetter_57 (by decide) (fun c_69 => ?_) (fun c_69 => ?_)
            · skip
              exact absurd hb1 c_69
            · skip
              refine lv_aload_n hx hb dX5_tryLetter_60 rfl (lv_at hl 2 rfl) ?_
              refine lv_aload_n hx hb dX5_tryLetter_61 rfl (lv_at hl 2 rfl) ?_
              refine va_get (ci := 5) (v := .ref (h 7)) (C := RX5) (T := TX5) (N := 20) hx hb hts hinX5 hown hK hP 0 rfl rfl 11 (by decide) (hts (.fieldLink RX5 29 "TypingTutorModel" "text" "[I") (List.mem_of_getElem? (i := 6) rfl)) (fun _ h9 => h9) rfl dX5_tryLetter_62 ?_
              refine lv_aload_n hx hb dX5_tryLetter_65 rfl (lv_at hl 2 rfl) ?_
              refine va_get (ci := 5) (v := .int (nI tr)) (C := RX5) (T := TX5) (N := 20) hx hb hts hinX5 hown hK hP 0 rfl rfl 13 (by decide) (hts (.fieldLink RX5 110 "TypingTutorModel" "at" "I") (List.mem_of_getElem? (i := 7) rfl)) (fun _ h9 => h9) rfl dX5_tryLetter_66 ?_
              refine lv_iconst (v := 1) hx hb dX5_tryLetter_69 (by decide) ?_
              refine lv_isub hx hb dX5_tryLetter_70 ?_
              refine lv_topi (fun v_70 ev_70 => ?_)
              obtain rfl : v_70 = (nI (tr - 1)) := ev_70.trans (pk_sub (a := tr) (b := 1) (by omega))
              refine va_iald hx hb hK hP 7 0 rfl rfl (vp_in_nI (n := (tr - 1)) (N := 48) (by omega) (by omega)) dX5_tryLetter_71 ?_
              rw [pk_cl (x := (nI (tr - 1))) (tr - 1) (rfl) (by omega)]
              refine lv_topi (fun v_71 ev_71 => ?_)
              obtain rfl : v_71 = (nI o9) := ev_71.trans (hb3)
              refine lv_aload_n hx hb dX5_tryLetter_72 rfl (lv_at hl 2 rfl) ?_
              refine va_get (ci := 5) (v := .ref (h 7)) (C := RX5) (T := TX5) (N := 20) hx hb hts hinX5 hown hK hP 0 rfl rfl 11 (by decide) (hts (.fieldLink RX5 29 "TypingTutorModel" "text" "[I") (List.mem_of_getElem? (i := 6) rfl)) (fun _ h9 => h9) rfl dX5_tryLetter_73 ?_
              refine lv_aload_n hx hb dX5_tryLetter_76 rfl (lv_at hl 2 rfl) ?_
              refine va_get (ci := 5) (v := .int (nI tr)) (C := RX5) (T := TX5) (N := 20) hx hb hts hinX5 hown hK hP 0 rfl rfl 13 (by decide) (hts (.fieldLink RX5 110 "TypingTutorModel" "at" "I") (List.mem_of_getElem? (i := 7) rfl)) (fun _ h9 => h9) rfl dX5_tryLetter_77 ?_
              refine va_iald hx hb hK hP 7 0 rfl rfl (vp_in_nI (n := tr) (N := 48) (by omega) (by omega)) dX5_tryLetter_80 ?_
              rw [pk_cl (x := (nI tr)) tr (rfl) (by omega)]
              refine lv_topi (fun v_72 ev_72 => ?_)
              obtain rfl : v_72 = (nI x) := ev_72.trans (hx9)
              refine zci (zrS (As := [.int (nI o9), .int (nI x)]) (rest := [.ref (h 0)]) ⟨hx, hb, hml, hown, hts⟩ (zS hP hD hK hE hB hS) (c_X5_pairOf (a := o9) (b := x) ) (va_cwS 2 hts gX5_tryLetter_X5_pairOf rfl rfl rfl hds_X5_pairOf ⟨Nat.le_of_ble_eq_true rfl, Nat.le_of_ble_eq_true rfl⟩) rfl rfl hl.1 rfl (lv_room (Nat.le_of_ble_eq_true rfl)) dX5_tryLetter_81 ⟨Nat.le_of_ble_eq_true rfl, Nat.le_of_ble_eq_true rfl⟩) hS (fun H locs hP hD hS => ?_)
              have hP : va_P D vwCl (zWM cI cJ cZ h th (n, L) ((zcb (zkt kt x) pt), (zcb (zkm false km x) pm), (zcb (upd kl x (zlv (kl x) 0)) pl)) mc (run, wc, nu, lc, le, af, tr, (ms9 + 1), cl, tm) (co, yn, yh, pa) ++ R) _ := hP
              have hD : va_D (zAb B) (zWM cI cJ cZ h th (n, L) ((zcb (zkt kt x) pt), (zcb (zkm false km x) pm), (zcb (upd kl x (zlv (kl x) 0)) pl)) mc (run, wc, nu, lc, le, af, tr, (ms9 + 1), cl, tm) (co, yn, yh, pa) ++ R) := hD
              refine lv_iload_n hx hb dX5_tryLetter_84 rfl (lv_at hl 1 rfl) ?_
              refine lv_iload_n hx hb dX5_tryLetter_85 rfl (lv_at hl 0 rfl) ?_
              refine zcv (zrV (As := [.int (nI (26 + (26 * o9 + x))), .int 0, .int 0]) (rest := []) ⟨hx, hb, hml, hown, hts⟩ (zV 0 hP hD hK hE hB hS rfl rfl) (c_X5_learn_p (b := false) (k := (26 * o9 + x)) (by omega)) (cwV 3 hts gX5_tryLetter_X5_learn rfl rfl rfl hdv_X5_learn ⟨Nat.le_of_ble_eq_true rfl, Nat.le_of_ble_eq_true rfl⟩) rfl rfl hl.1 rfl (lv_room (Nat.le_of_ble_eq_true rfl)) dX5_tryLetter_86 ⟨Nat.le_of_ble_eq_true rfl, Nat.le_of_ble_eq_true rfl⟩) hS (fun H locs hP hD hS => ?_)
              have hP : va_P D vwCl (zWM cI cJ cZ h th (n, L) ((zcb (zkt kt x) (zkt pt (26 * o9 + x))), (zcb (zkm false km x) (zkm false pm (26 * o9 + x))), (zcb (upd kl x (zlv (kl x) 0)) (upd pl (26 * o9 + x) (zlv (pl (26 * o9 + x)) 0)))) mc (run, wc, nu, lc, le, af, tr, (ms9 + 1), cl, tm) (co, yn, yh, pa) ++ R) _ := hP
              have hD : va_D (zAb B) (zWM cI cJ cZ h th (n, L) ((zcb (zkt kt x) (zkt pt (26 * o9 + x))), (zcb (zkm false km x) (zkm false pm (26 * o9 + x))), (zcb (upd kl x (zlv (kl x) 0)) (upd pl (26 * o9 + x) (zlv (pl (26 * o9 + x)) 0)))) mc (run, wc, nu, lc, le, af, tr, (ms9 + 1), cl, tm) (co, yn, yh, pa) ++ R) := hD
              refine lv_aload_n hx hb dX5_tryLetter_89 rfl (lv_at hl 2 rfl) ?_
              refine lv_dup hx hb dX5_tryLetter_90 rfl ?_
              refine va_get (ci := 5) (v := .int (nI cl)) (C := RX5) (T := TX5) (N := 20) hx hb hts hinX5 hown hK hP 0 rfl rfl 15 (by decide) (hts (.fieldLink RX5 116 "TypingTutorModel" "clean" "I") (List.mem_of_getElem? (i := 9) rfl)) (fun _ h9 => h9) rfl dX5_tryLetter_91 ?_
              refine lv_iload_n hx hb dX5_tryLetter_94 rfl (lv_at hl 1 rfl) ?_
              refine lv_if_eq (tgt := 102) hx hb dX5_tryLetter_95 (by decide) (fun c_73 => ?_) (fun c_73 => ?_)
              · skip
                refine lv_iconst (v := 0) hx hb dX5_tryLetter_102 (by decide) ?_
                refine lv_iadd hx hb dX5_tryLetter_103 ?_
                refine lv_topi (fun v_74 ev_74 => ?_)
                obtain rfl : v_74 = (nI (cl + 0)) := ev_74.trans (nI_add cl 0)
                refine va_put (ci := 5) (v := .int (nI (cl + 0))) (ty := .int) (C := RX5) (T := TX5) (N := 20) hx hb hts hinX5 tyX5 tyX5_ok nmX5 hown hK hP hD hS 0 rfl rfl 15 (by decide) (hts (.fieldLink RX5 116 "TypingTutorModel" "clean" "I") (List.mem_of_getElem? (i := 9) rfl)) (fun _ h9 => h9) rfl (by decide +kernel) rfl rfl (Nat.le_of_ble_eq_true rfl) dX5_tryLetter_104 (fun H locs hP hD hS => ?_)
                have hP : va_P D vwCl (zWM cI cJ cZ h th (n, L) ((zcb (zkt kt x) (zkt pt (26 * o9 + x))), (zcb (zkm false km x) (zkm false pm (26 * o9 + x))), (zcb (upd kl x (zlv (kl x) 0)) (upd pl (26 * o9 + x) (zlv (pl (26 * o9 + x)) 0)))) mc (run, wc, nu, lc, le, af, tr, (ms9 + 1), (cl + 0), tm) (co, yn, yh, pa) ++ R) _ := hP
                have hD : va_D (zAb B) (zWM cI cJ cZ h th (n, L) ((zcb (zkt kt x) (zkt pt (26 * o9 + x))), (zcb (zkm false km x) (zkm false pm (26 * o9 + x))), (zcb (upd kl x (zlv (kl x) 0)) (upd pl (26 * o9 + x) (zlv (pl (26 * o9 + x)) 0)))) mc (run, wc, nu, lc, le, af, tr, (ms9 + 1), (cl + 0), tm) (co, yn, yh, pa) ++ R) := hD
                refine lv_aload_n hx hb dX5_tryLetter_107 rfl (lv_at hl 2 rfl) ?_
                refine lv_iconst (v := 0) hx hb dX5_tryLetter_108 (by decide) ?_
                refine va_put (ci := 5) (v := .int 0) (ty := .int) (C := RX5) (T := TX5) (N := 20) hx hb hts hinX5 tyX5 tyX5_ok nmX5 hown hK hP hD hS 0 rfl rfl 14 (by decide) (hts (.fieldLink RX5 113 "TypingTutorModel" "slips" "I") (List.mem_of_getElem? (i := 1) rfl)) (fun _ h9 => h9) rfl (by decide +kernel) rfl rfl (Nat.le_of_ble_eq_true rfl) dX5_tryLetter_109 (fun H locs hP hD hS => ?_)
                have hP : va_P D vwCl (zWM cI cJ cZ h th (n, L) ((zcb (zkt kt x) (zkt pt (26 * o9 + x))), (zcb (zkm false km x) (zkm false pm (26 * o9 + x))), (zcb (upd kl x (zlv (kl x) 0)) (upd pl (26 * o9 + x) (zlv (pl (26 * o9 + x)) 0)))) mc (run, wc, nu, lc, le, af, tr, 0, (cl + 0), tm) (co, yn, yh, pa) ++ R) _ := hP
                have hD : va_D (zAb B) (zWM cI cJ cZ h th (n, L) ((zcb (zkt kt x) (zkt pt (26 * o9 + x))), (zcb (zkm false km x) (zkm false pm (26 * o9 + x))), (zcb (upd kl x (zlv (kl x) 0)) (upd pl (26 * o9 + x) (zlv (pl (26 * o9 + x)) 0)))) mc (run, wc, nu, lc, le, af, tr, 0, (cl + 0), tm) (co, yn, yh, pa) ++ R) := hD
                refine lv_aload_n hx hb dX5_tryLetter_112 rfl (lv_at hl 2 rfl) ?_
                refine lv_dup hx hb dX5_tryLetter_113 rfl ?_
                refine va_get (ci := 5) (v := .int (nI tr)) (C := RX5) (T := TX5) (N := 20) hx hb hts hinX5 hown hK hP 0 rfl rfl 13 (by decide) (hts (.fieldLink RX5 110 "TypingTutorModel" "at" "I") (List.mem_of_getElem? (i := 7) rfl)) (fun _ h9 => h9) rfl dX5_tryLetter_114 ?_
                refine lv_iconst (v := 1) hx hb dX5_tryLetter_117 (by decide) ?_
                refine lv_iadd hx hb dX5_tryLetter_118 ?_
                refine lv_topi (fun v_75 ev_75 => ?_)
                obtain rfl : v_75 = (nI (tr + 1)) := ev_75.trans (nI_add tr 1)
                refine va_put (ci := 5) (v := .int (nI (tr + 1))) (ty := .int) (C := RX5) (T := TX5) (N := 20) hx hb hts hinX5 tyX5 tyX5_ok nmX5 hown hK hP hD hS 0 rfl rfl 13 (by decide) (hts (.fieldLink RX5 110 "TypingTutorModel" "at" "I") (List.mem_of_getElem? (i := 7) rfl)) (fun _ h9 => h9) rfl (by decide +kernel) rfl rfl (Nat.le_of_ble_eq_true rfl) dX5_tryLetter_119 (fun H locs hP hD hS => ?_)
                have hP : va_P D vwCl (zWM cI cJ cZ h th (n, L) ((zcb (zkt kt x) (zkt pt (26 * o9 + x))), (zcb (zkm false km x) (zkm false pm (26 * o9 + x))), (zcb (upd kl x (zlv (kl x) 0)) (upd pl (26 * o9 + x) (zlv (pl (26 * o9 + x)) 0)))) mc (run, wc, nu, lc, le, af, (tr + 1), 0, (cl + 0), tm) (co, yn, yh, pa) ++ R) _ := hP
                have hD : va_D (zAb B) (zWM cI cJ cZ h th (n, L) ((zcb (zkt kt x) (zkt pt (26 * o9 + x))), (zcb (zkm false km x) (zkm false pm (26 * o9 + x))), (zcb (upd kl x (zlv (kl x) 0)) (upd pl (26 * o9 + x) (zlv (pl (26 * o9 + x)) 0)))) mc (run, wc, nu, lc, le, af, (tr + 1), 0, (cl + 0), tm) (co, yn, yh, pa) ++ R) := hD
                refine lv_aload_n hx hb dX5_tryLetter_122 rfl (lv_at hl 2 rfl) ?_
                refine va_get (ci := 5) (v := .int (nI (tr + 1))) (C := RX5) (T := TX5) (N := 20) hx hb hts hinX5 hown hK hP 0 rfl rfl 13 (by decide) (hts (.fieldLink RX5 110 "TypingTutorModel" "at" "I") (List.mem_of_getElem? (i := 7) rfl)) (fun _ h9 => h9) rfl dX5_tryLetter_123 ?_
                refine lv_aload_n hx hb dX5_tryLetter_126 rfl (lv_at hl 2 rfl) ?_
                refine va_get (ci := 5) (v := .int (nI lc)) (C := RX5) (T := TX5) (N := 20) hx hb hts hinX5 hown hK hP 0 rfl rfl 10 (by decide) (hts (.fieldLink RX5 103 "TypingTutorModel" "letters" "I") (List.mem_of_getElem? (i := 10) rfl)) (fun _ h9 => h9) rfl dX5_tryLetter_127 ?_
                refine lv_icmp_ne (tgt := 137) hx hb dX5_tryLetter_130 (by decide) (fun c_76 => ?_) (fun c_76 => ?_)
                · skip
                  have c_76 : ¬ (tr + 1) = lc := fun hh => c_76 ((nI_eq (a := (tr + 1)) (b := lc) (by omega) (by omega)).mpr hh)
                  refine W.widen (k := 1) (n := 1536) (Nat.le_of_ble_eq_true rfl) (Nat.le_of_ble_eq_true rfl) ?_
                  exact W.vret hx hb hr (fun t ht hW => ⟨⟨(h 9), rfl, trivial, by rw [ht]; exact hP, hD⟩, hS.F ht⟩) hS.2.2 dX5_tryLetter_137
                · skip
                  have c_76 : (tr + 1) = lc := (nI_eq (a := (tr + 1)) (b := lc) (by omega) (by omega)).mp c_76
                  omega
              · skip
                exfalso; first | omega | (revert c_73; decide) | (exact absurd rfl c_73) | simp_all
          · skip
            exfalso; first | omega | (revert c_67; decide) | (exact absurd rfl c_67) | simp_all
        · skip
          have c_66 : (ms9 + 1) = 0 := (nI_eq (a := (ms9 + 1)) (b := 0) (by omega) (by omega)).mp c_66
          omega

set_option maxHeartbeats 1000000 in
set_option maxRecDepth 100000 in
theorem c_X5_strike_r {l : Launch} {B kr kp : Nat} {D : va_G} {cI cJ cZ : ClassId} {h : Nat → Nat} {R : va_W} {th : Int32} {n : Nat} {L : Nat → Int64} {kt : Nat → Int32} {km : Nat → Int32} {kl : Nat → Int32} {pt : Nat → Int32} {pm : Nat → Int32} {pl : Nat → Int32} {nu : Nat → Int32} {le : Nat → Int32} {af : Nat → Int32} {run : Bool} {wc : Nat} {lc : Nat} {tr : Nat} {cl : Nat} {tm : Nat} {ms : Nat} {co : Nat} {yn : Nat} {yh : Nat → Int32} {pa : Int32} {mc : Nat → Int32} {key : Nat} {time : Nat} {ow : Nat → Int32} {x : Nat} {o : Option Nat} {fin : Bool} {g : Bool}  (hkey : key < 26) (ht1 : 1 ≤ time) (ht2 : time ≤ 5000) (hrun : run = true) (hM : zMk af ow lc) (hx9 : le tr = nI x) (hx26 : x < 26) (ho1 : o = none → ¬ af tr = 0) (ho2 : ∀ y, o = some y → af tr = 0 ∧ 0 < tr ∧ le (tr - 1) = nI y ∧ y < 26) (hf : zsel fin (tr + 1 = lc) (tr + 1 < lc)) (htr : tr < lc) (hlc : lc ≤ 48) (hcl : cl ≤ tr) (hco : co < 256) (h2ms : ms ≤ 2) (hg : zsel g (3 * co = yn) (3 * co + 3 ≤ yn)) (hyn : yn ≤ 1530) (hy12 : 12 ≤ yn) (hk0 : zkd (nI key) le ow lc tr = 0) : Met l yX5_strike wsX5_strike ({ frames := 6, cells := 1, slots := 1536, locals := 138 }) (zPc B kr kp D (zTy cI cJ cZ) (zWM cI cJ cZ h th (n, L) ((zcb kt pt), (zcb km pm), (zcb kl pl)) mc (run, wc, nu, lc, le, af, tr, ms, cl, tm) (co, yn, yh, pa) ++ R) [.ref (h 0), .int (nI key), .int (nI time)]) (zQih B D (fun q9 => (zWM cI cJ cZ (zh9 h q9) 0 (n, L) ((zcb (zkt kt x) (zou o x pt (zkt pt))), (zcb (zkm (zc0 ms) km x) (zou o x pm (zkm (zc0 ms) pm))), (zcb (zkl (zc0 ms) kl x (nI time)) (zou o x pl (fun p => zkl (zc0 ms) pl p (nI time))))) mc ((zsel fin false run), wc, nu, lc, le, af, (tr + 1), 0, (zsel (zc0 ms) (cl + 1) cl), (tm + time)) ((zsel fin (co + 1) co), (zsel fin (zyn g yn) yn), (zsel fin (zh3 (zyh g yh yn) co lc (zsel (zc0 ms) (cl + 1) cl) (tm + time)) yh), (zsel fin (zpc pa lc (zsel (zc0 ms) (cl + 1) cl)) pa)) ++ R)) 0) 1 1536 (zAb B) := by
  refine Met.ofW (cc := cX5_strike) (maxL := 4) (ret := (some .int)) (by decide) rfl ?_
  intro p e s m args below meth c s₁ B0 hml hv
  obtain ⟨rfl, hP, hD, hK, hE, hB⟩ := hv
  have hx := B0.exec
  have hb := B0.bytes
  have hr := B0.returns
  have hts := atoms_spec (ws := wsX5_strike) B0.pre
  have hown : s.vm.findClass RX5 = some m.cls := findClass_of_methodNamed B0.named
  have hlocks := B0.notSynchronized
  have hA : ∀ q : Nat, s.heap.size ≤ q → zAb B q := fun q hq => Nat.le_trans hB hq
  have hS : va_S (zAb B) s.heap s.heap [] := va_S.rf
  have hgr : s.heap.size ≤ s.heap.size := Nat.le_refl _
  have hl := lv_entry ([.ref (h 0), .int (nI key), .int (nI time)]) (n := 4) (Nat.le_of_ble_eq_true rfl)
  rw [lg_entry_eq]
  generalize (lg_sl ([.ref (h 0), .int (nI key), .int (nI time)]) ++ List.replicate (4 - (lg_sl ([.ref (h 0), .int (nI key), .int (nI time)])).length) Slot.unset).toArray = ls at hl ⊢
  have hl : lv_has ls 4 [(0, .ref (h 0)), (1, .int (nI key)), (2, .int (nI time))] := hl
  have hinX5 : ∀ w ∈ wsX50, w ∈ wsX5_strike := fun _ h => List.mem_cons_of_mem _ (List.mem_append_right _ h)
  have hP : va_P D vwCl (zWM cI cJ cZ h th (n, L) ((zcb kt pt), (zcb km pm), (zcb kl pl)) mc (run, wc, nu, lc, le, af, tr, ms, cl, tm) (co, yn, yh, pa) ++ R) s.heap := hP
  have hD : va_D (zAb B) (zWM cI cJ cZ h th (n, L) ((zcb kt pt), (zcb km pm), (zcb kl pl)) mc (run, wc, nu, lc, le, af, tr, ms, cl, tm) (co, yn, yh, pa) ++ R) := hD
  have h1 : ¬ nI key < 0 ∧ ¬ 26 ≤ nI key := ⟨nI_pos (by omega), nI_ge hkey (by decide)⟩
  refine lv_aload_n hx hb dX5_strike_0 rfl (lv_at hl 0 rfl) ?_
  refine lv_iconst (v := 0) hx hb dX5_strike_1 (by decide) ?_
  refine va_put (ci := 5) (v := .int 0) (ty := .int) (C := RX5) (T := TX5) (N := 20) hx hb hts hinX5 tyX5 tyX5_ok nmX5 hown hK hP hD hS 0 rfl rfl 0 (by decide) (hts (.fieldLink RX5 43 "TypingTutorModel" "thrown" "I") (List.mem_of_getElem? (i := 1) rfl)) (fun _ h9 => h9) rfl (by decide +kernel) rfl rfl (Nat.le_of_ble_eq_true rfl) dX5_strike_2 (fun H locs hP hD hS => ?_)
  have hP : va_P D vwCl (zWM cI cJ cZ h 0 (n, L) ((zcb kt pt), (zcb km pm), (zcb kl pl)) mc (run, wc, nu, lc, le, af, tr, ms, cl, tm) (co, yn, yh, pa) ++ R) _ := hP
  have hD : va_D (zAb B) (zWM cI cJ cZ h 0 (n, L) ((zcb kt pt), (zcb km pm), (zcb kl pl)) mc (run, wc, nu, lc, le, af, tr, ms, cl, tm) (co, yn, yh, pa) ++ R) := hD
  refine lv_iload_n hx hb dX5_strike_5 rfl (lv_at hl 1 rfl) ?_
  refine zci (zrS (As := [.int (nI key)]) (rest := []) ⟨hx, hb, hml, hown, hts⟩ (zS hP hD hK hE hB hS) (c_X5_isKey  ) (va_cwS 1 hts gX5_strike_X5_isKey rfl rfl rfl hds_X5_isKey ⟨Nat.le_of_ble_eq_true rfl, Nat.le_of_ble_eq_true rfl⟩) rfl rfl hl.1 rfl (lv_room (Nat.le_of_ble_eq_true rfl)) dX5_strike_6 ⟨Nat.le_of_ble_eq_true rfl, Nat.le_of_ble_eq_true rfl⟩) hS (fun H locs hP hD hS => ?_)
  have hP : va_P D vwCl (zWM cI cJ cZ h 0 (n, L) ((zcb kt pt), (zcb km pm), (zcb kl pl)) mc (run, wc, nu, lc, le, af, tr, ms, cl, tm) (co, yn, yh, pa) ++ R) _ := hP
  have hD : va_D (zAb B) (zWM cI cJ cZ h 0 (n, L) ((zcb kt pt), (zcb km pm), (zcb kl pl)) mc (run, wc, nu, lc, le, af, tr, ms, cl, tm) (co, yn, yh, pa) ++ R) := hD
  refine lv_if_ne (tgt := 18) hx hb dX5_strike_9 (by decide) (fun c_1 => ?_) (fun c_1 => ?_)
  · skip
    have c_1 := zq_n c_1
    refine lv_iload_n hx hb dX5_strike_18 rfl (lv_at hl 2 rfl) ?_
    refine lv_iconst (v := 1) hx hb dX5_strike_19 (by decide) ?_
    refine lv_icmp_lt (tgt := 30) hx hb dX5_strike_20 (by decide) (fun c_2 => ?_) (fun c_2 => ?_)
    · skip
      have c_2 : time < 1 := (nI_ltI (a := time) (b := 1) (by omega) (by omega)).mp c_2
      omega
    · skip
      have c_2 : ¬ time < 1 := fun hh => c_2 ((nI_ltI (a := time) (b := 1) (by omega) (by omega)).mpr hh)
      refine lv_iload_n hx hb dX5_strike_23 rfl (lv_at hl 2 rfl) ?_
      refine lv_sipush (v := 5000) hx hb dX5_strike_24 (by decide) ?_
      refine lv_icmp_le (tgt := 36) hx hb dX5_strike_27 (by decide) (fun c_3 => ?_) (fun c_3 => ?_)
      · skip
        have c_3 : time ≤ 5000 := (nI_leI (a := time) (b := 5000) (by omega) (by omega)).mp c_3
        refine lv_aload_n hx hb dX5_strike_36 rfl (lv_at hl 0 rfl) ?_
        refine va_get (ci := 5) (v := .int (zb run)) (C := RX5) (T := TX5) (N := 20) hx hb hts hinX5 hown hK hP 0 rfl rfl 7 (by decide) (hts (.fieldLink RX5 106 "TypingTutorModel" "isOpen" "Z") (List.mem_of_getElem? (i := 2) rfl)) (fun _ h9 => h9) rfl dX5_strike_37 ?_
        refine lv_if_ne (tgt := 49) hx hb dX5_strike_40 (by decide) (fun c_4 => ?_) (fun c_4 => ?_)
        · skip
          have c_4 : run = true := zb_n c_4
          refine lv_aload_n hx hb dX5_strike_49 rfl (lv_at hl 0 rfl) ?_
          refine lv_iload_n hx hb dX5_strike_50 rfl (lv_at hl 1 rfl) ?_
          refine zci (zrV (As := [.int (nI key)]) (rest := []) ⟨hx, hb, hml, hown, hts⟩ (zV 0 hP hD hK hE hB hS rfl rfl) (c_X5_kindOf (key := key) (ow := ow) (x := x) (hkey) (hM) (htr) (hlc) (hx9) (hx26)) (cwV 1 hts gX5_strike_X5_kindOf rfl rfl rfl hdv_X5_kindOf ⟨Nat.le_of_ble_eq_true rfl, Nat.le_of_ble_eq_true rfl⟩) rfl rfl hl.1 rfl (lv_room (Nat.le_of_ble_eq_true rfl)) dX5_strike_51 ⟨Nat.le_of_ble_eq_true rfl, Nat.le_of_ble_eq_true rfl⟩) hS (fun H locs hP hD hS => ?_)
          have hP : va_P D vwCl (zWM cI cJ cZ h 0 (n, L) ((zcb kt pt), (zcb km pm), (zcb kl pl)) mc (run, wc, nu, lc, le, af, tr, ms, cl, tm) (co, yn, yh, pa) ++ R) _ := hP
          have hD : va_D (zAb B) (zWM cI cJ cZ h 0 (n, L) ((zcb kt pt), (zcb km pm), (zcb kl pl)) mc (run, wc, nu, lc, le, af, tr, ms, cl, tm) (co, yn, yh, pa) ++ R) := hD
          rw [show (zkd (nI key) le ow lc tr) = 0 from hk0]
          refine lv_istore_n (lv' := [(3, .int 0), (0, .ref (h 0)), (1, .int (nI key)), (2, .int (nI time))]) hx hb dX5_strike_54 rfl hl (by decide) rfl (fun ls hl => ?_)
          refine lv_aload_n hx hb dX5_strike_55 rfl (lv_at hl 1 rfl) ?_
          refine lv_dup hx hb dX5_strike_56 rfl ?_
          refine va_get (ci := 5) (v := .int (nI tm)) (C := RX5) (T := TX5) (N := 20) hx hb hts hinX5 hown hK hP 0 rfl rfl 16 (by decide) (hts (.fieldLink RX5 119 "TypingTutorModel" "time" "I") (List.mem_of_getElem? (i := 3) rfl)) (fun _ h9 => h9) rfl dX5_strike_57 ?_
          refine lv_iload_n hx hb dX5_strike_60 rfl (lv_at hl 3 rfl) ?_
          refine lv_iadd hx hb dX5_strike_61 ?_
          refine lv_topi (fun v_5 ev_5 => ?_)
          obtain rfl : v_5 = (nI (tm + time)) := ev_5.trans (nI_add tm time)
          refine va_put (ci := 5) (v := .int (nI (tm + time))) (ty := .int) (C := RX5) (T := TX5) (N := 20) hx hb hts hinX5 tyX5 tyX5_ok nmX5 hown hK hP hD hS 0 rfl rfl 16 (by decide) (hts (.fieldLink RX5 119 "TypingTutorModel" "time" "I") (List.mem_of_getElem? (i := 3) rfl)) (fun _ h9 => h9) rfl (by decide +kernel) rfl rfl (Nat.le_of_ble_eq_true rfl) dX5_strike_62 (fun H locs hP hD hS => ?_)
          have hP : va_P D vwCl (zWM cI cJ cZ h 0 (n, L) ((zcb kt pt), (zcb km pm), (zcb kl pl)) mc (run, wc, nu, lc, le, af, tr, ms, cl, (tm + time)) (co, yn, yh, pa) ++ R) _ := hP
          have hD : va_D (zAb B) (zWM cI cJ cZ h 0 (n, L) ((zcb kt pt), (zcb km pm), (zcb kl pl)) mc (run, wc, nu, lc, le, af, tr, ms, cl, (tm + time)) (co, yn, yh, pa) ++ R) := hD
          refine lv_aload_n hx hb dX5_strike_65 rfl (lv_at hl 1 rfl) ?_
          refine va_get (ci := 5) (v := .ref (h 5)) (C := RX5) (T := TX5) (N := 20) hx hb hts hinX5 hown hK hP 0 rfl rfl 6 (by decide) (hts (.fieldLink RX5 23 "TypingTutorModel" "kindCounts" "[I") (List.mem_of_getElem? (i := 4) rfl)) (fun _ h9 => h9) rfl dX5_strike_66 ?_
          refine lv_iload_n hx hb dX5_strike_69 rfl (lv_at hl 0 rfl) ?_
          refine lv_dup2_11 hx hb dX5_strike_70 rfl rfl ?_
          refine va_iald hx hb hK hP 5 0 rfl rfl (vp_in_nI (n := 0) (N := 5) (by omega) (by omega)) dX5_strike_71 ?_
          rw [pk_cl (x := (0 : Int32)) 0 (rfl) (by omega)]
          refine lv_iload_n hx hb dX5_strike_72 rfl (lv_at hl 0 rfl) ?_
          refine lv_if_ne (tgt := 80) hx hb dX5_strike_73 (by decide) (fun c_6 => ?_) (fun c_6 => ?_)
          · skip
            exfalso; first | omega | (revert c_6; decide) | (exact absurd rfl c_6) | simp_all
          · skip
            refine lv_iconst (v := 0) hx hb dX5_strike_76 (by decide) ?_
            refine lv_goto (tgt := 81) hx hb dX5_strike_77 (by decide) ?_
            refine lv_iadd hx hb dX5_strike_81 ?_
            refine va_iast hx hb hK hP hD hS 5 0 rfl rfl (vp_in_nI (n := 0) (N := 5) (by omega) (by omega)) dX5_strike_82 (fun H locs hP hD hS => ?_)
            rw [pk_cl (x := (0 : Int32)) 0 (rfl) (by omega)] at hP hD
            have hP : va_P D vwCl (zWM cI cJ cZ h 0 (n, L) ((zcb kt pt), (zcb km pm), (zcb kl pl)) (upd mc 0 ((mc 0) + 0)) (run, wc, nu, lc, le, af, tr, ms, cl, (tm + time)) (co, yn, yh, pa) ++ R) _ := hP
            have hD : va_D (zAb B) (zWM cI cJ cZ h 0 (n, L) ((zcb kt pt), (zcb km pm), (zcb kl pl)) (upd mc 0 ((mc 0) + 0)) (run, wc, nu, lc, le, af, tr, ms, cl, (tm + time)) (co, yn, yh, pa) ++ R) := hD
            rw [zup0] at hP hD
            refine lv_aload_n hx hb dX5_strike_83 rfl (lv_at hl 1 rfl) ?_
            refine lv_dup hx hb dX5_strike_84 rfl ?_
            refine va_get (ci := 5) (v := .int (nI ms)) (C := RX5) (T := TX5) (N := 20) hx hb hts hinX5 hown hK hP 0 rfl rfl 14 (by decide) (hts (.fieldLink RX5 113 "TypingTutorModel" "slips" "I") (List.mem_of_getElem? (i := 5) rfl)) (fun _ h9 => h9) rfl dX5_strike_85 ?_
            refine lv_iload_n hx hb dX5_strike_88 rfl (lv_at hl 0 rfl) ?_
            refine lv_if_ne (tgt := 96) hx hb dX5_strike_89 (by decide) (fun c_7 => ?_) (fun c_7 => ?_)
            · skip
              exfalso; first | omega | (revert c_7; decide) | (exact absurd rfl c_7) | simp_all
            · skip
              refine lv_iconst (v := 0) hx hb dX5_strike_92 (by decide) ?_
              refine lv_goto (tgt := 97) hx hb dX5_strike_93 (by decide) ?_
              refine lv_iadd hx hb dX5_strike_97 ?_
              refine lv_topi (fun v_8 ev_8 => ?_)
              obtain rfl : v_8 = (nI (ms + 0)) := ev_8.trans (nI_add ms 0)
              refine va_put (ci := 5) (v := .int (nI (ms + 0))) (ty := .int) (C := RX5) (T := TX5) (N := 20) hx hb hts hinX5 tyX5 tyX5_ok nmX5 hown hK hP hD hS 0 rfl rfl 14 (by decide) (hts (.fieldLink RX5 113 "TypingTutorModel" "slips" "I") (List.mem_of_getElem? (i := 5) rfl)) (fun _ h9 => h9) rfl (by decide +kernel) rfl rfl (Nat.le_of_ble_eq_true rfl) dX5_strike_98 (fun H locs hP hD hS => ?_)
              have hP : va_P D vwCl (zWM cI cJ cZ h 0 (n, L) ((zcb kt pt), (zcb km pm), (zcb kl pl)) mc (run, wc, nu, lc, le, af, tr, (ms + 0), cl, (tm + time)) (co, yn, yh, pa) ++ R) _ := hP
              have hD : va_D (zAb B) (zWM cI cJ cZ h 0 (n, L) ((zcb kt pt), (zcb km pm), (zcb kl pl)) mc (run, wc, nu, lc, le, af, tr, (ms + 0), cl, (tm + time)) (co, yn, yh, pa) ++ R) := hD
              refine lv_iload_n hx hb dX5_strike_101 rfl (lv_at hl 0 rfl) ?_
              refine lv_if_eq (tgt := 113) hx hb dX5_strike_102 (by decide) (fun c_9 => ?_) (fun c_9 => ?_)
              · skip
                refine lv_aload_n hx hb dX5_strike_113 rfl (lv_at hl 1 rfl) ?_
                refine lv_iload_n hx hb dX5_strike_114 rfl (lv_at hl 3 rfl) ?_
                refine zcvh (zrV (As := [.int (nI time)]) (rest := []) ⟨hx, hb, hml, hown, hts⟩ (zV 0 hP hD hK hE hB hS rfl rfl) (c_X5_tryLetter (x := x) (o := o) (fin := fin) (g := g) (hx9) (hx26) (ho1) (ho2) (hf) (htr) (hlc) (hcl) (hco) (by omega) (hg) (hyn) (hy12)) (cwV 1 hts gX5_strike_X5_tryLetter rfl rfl rfl hdv_X5_tryLetter ⟨Nat.le_of_ble_eq_true rfl, Nat.le_of_ble_eq_true rfl⟩) rfl rfl hl.1 rfl (lv_room (Nat.le_of_ble_eq_true rfl)) dX5_strike_115 ⟨Nat.le_of_ble_eq_true rfl, Nat.le_of_ble_eq_true rfl⟩) hS (fun q9 H locs hP hD hS => ?_)
                have hP : va_P D vwCl (zWM cI cJ cZ (zh9 h q9) 0 (n, L) ((zcb (zkt kt x) (zou o x pt (zkt pt))), (zcb (zkm (zc0 (ms + 0)) km x) (zou o x pm (zkm (zc0 (ms + 0)) pm))), (zcb (zkl (zc0 (ms + 0)) kl x (nI time)) (zou o x pl (fun p => zkl (zc0 (ms + 0)) pl p (nI time))))) mc ((zsel fin false run), wc, nu, lc, le, af, (tr + 1), 0, (zsel (zc0 (ms + 0)) (cl + 1) cl), (tm + time)) ((zsel fin (co + 1) co), (zsel fin (zyn g yn) yn), (zsel fin (zh3 (zyh g yh yn) co lc (zsel (zc0 (ms + 0)) (cl + 1) cl) (tm + time)) yh), (zsel fin (zpc pa lc (zsel (zc0 (ms + 0)) (cl + 1) cl)) pa)) ++ R) _ := hP
                have hD : va_D (zAb B) (zWM cI cJ cZ (zh9 h q9) 0 (n, L) ((zcb (zkt kt x) (zou o x pt (zkt pt))), (zcb (zkm (zc0 (ms + 0)) km x) (zou o x pm (zkm (zc0 (ms + 0)) pm))), (zcb (zkl (zc0 (ms + 0)) kl x (nI time)) (zou o x pl (fun p => zkl (zc0 (ms + 0)) pl p (nI time))))) mc ((zsel fin false run), wc, nu, lc, le, af, (tr + 1), 0, (zsel (zc0 (ms + 0)) (cl + 1) cl), (tm + time)) ((zsel fin (co + 1) co), (zsel fin (zyn g yn) yn), (zsel fin (zh3 (zyh g yh yn) co lc (zsel (zc0 (ms + 0)) (cl + 1) cl) (tm + time)) yh), (zsel fin (zpc pa lc (zsel (zc0 (ms + 0)) (cl + 1) cl)) pa)) ++ R) := hD
                refine lv_iload_n hx hb dX5_strike_118 rfl (lv_at hl 0 rfl) ?_
                exact W.iret (v := 0) hx hb hr (fun t ht hW => ⟨⟨_, q9, rfl, rfl, by rw [ht]; exact hP, hD⟩, hS.F ht⟩) hS.2.2 dX5_strike_119
              · skip
                exfalso; first | omega | (revert c_9; decide) | (exact absurd rfl c_9) | simp_all
        · skip
          have c_4 : run = false := zb_0 c_4
          exact absurd (c_4.symm.trans hrun) (by decide)
      · skip
        have c_3 : ¬ time ≤ 5000 := fun hh => c_3 ((nI_leI (a := time) (b := 5000) (by omega) (by omega)).mpr hh)
        omega
  · skip
    have c_1 := zq_0 c_1
    exact absurd h1 c_1

set_option maxHeartbeats 1000000 in
set_option maxRecDepth 100000 in
theorem c_X5_strike_w1 {l : Launch} {B kr kp : Nat} {D : va_G} {cI cJ cZ : ClassId} {h : Nat → Nat} {R : va_W} {th : Int32} {n : Nat} {L : Nat → Int64} {kt : Nat → Int32} {km : Nat → Int32} {kl : Nat → Int32} {pt : Nat → Int32} {pm : Nat → Int32} {pl : Nat → Int32} {nu : Nat → Int32} {le : Nat → Int32} {af : Nat → Int32} {run : Bool} {wc : Nat} {lc : Nat} {tr : Nat} {cl : Nat} {tm : Nat} {ms : Nat} {co : Nat} {yn : Nat} {yh : Nat → Int32} {pa : Int32} {mc : Nat → Int32} {key : Nat} {time : Nat} {ow : Nat → Int32} {x : Nat} {kk : Nat}  (hkey : key < 26) (ht1 : 1 ≤ time) (ht2 : time ≤ 5000) (hrun : run = true) (hM : zMk af ow lc) (htr : tr < lc) (hlc : lc ≤ 48) (hx9 : le tr = nI x) (hx26 : x < 26) (hms : ms = 0) (hkk : zkd (nI key) le ow lc tr = nI kk) (hk1 : 1 ≤ kk) (hk4 : kk ≤ 4) : Met l yX5_strike wsX5_strike ({ frames := 6, cells := 1, slots := 1536, locals := 138 }) (zPc B kr kp D (zTy cI cJ cZ) (zWM cI cJ cZ h th (n, L) ((zcb kt pt), (zcb km pm), (zcb kl pl)) mc (run, wc, nu, lc, le, af, tr, ms, cl, tm) (co, yn, yh, pa) ++ R) [.ref (h 0), .int (nI key), .int (nI time)]) (zQih B D (fun q9 => (zWM cI cJ cZ (zh9 h q9) 0 (n, L) ((zcb kt pt), (zcb km pm), (zcb kl pl)) (upd mc kk (mc kk + 1)) (run, wc, nu, lc, le, af, tr, (ms + 1), cl, (tm + time)) (co, yn, yh, pa) ++ R)) (nI kk)) 1 1536 (zAb B) := by
  refine Met.ofW (cc := cX5_strike) (maxL := 4) (ret := (some .int)) (by decide) rfl ?_
  intro p e s m args below meth c s₁ B0 hml hv
  obtain ⟨rfl, hP, hD, hK, hE, hB⟩ := hv
  have hx := B0.exec
  have hb := B0.bytes
  have hr := B0.returns
  have hts := atoms_spec (ws := wsX5_strike) B0.pre
  have hown : s.vm.findClass RX5 = some m.cls := findClass_of_methodNamed B0.named
  have hlocks := B0.notSynchronized
  have hA : ∀ q : Nat, s.heap.size ≤ q → zAb B q := fun q hq => Nat.le_trans hB hq
  have hS : va_S (zAb B) s.heap s.heap [] := va_S.rf
  have hgr : s.heap.size ≤ s.heap.size := Nat.le_refl _
  have hl := lv_entry ([.ref (h 0), .int (nI key), .int (nI time)]) (n := 4) (Nat.le_of_ble_eq_true rfl)
  rw [lg_entry_eq]
  generalize (lg_sl ([.ref (h 0), .int (nI key), .int (nI time)]) ++ List.replicate (4 - (lg_sl ([.ref (h 0), .int (nI key), .int (nI time)])).length) Slot.unset).toArray = ls at hl ⊢
  have hl : lv_has ls 4 [(0, .ref (h 0)), (1, .int (nI key)), (2, .int (nI time))] := hl
  have hinX5 : ∀ w ∈ wsX50, w ∈ wsX5_strike := fun _ h => List.mem_cons_of_mem _ (List.mem_append_right _ h)
  have hP : va_P D vwCl (zWM cI cJ cZ h th (n, L) ((zcb kt pt), (zcb km pm), (zcb kl pl)) mc (run, wc, nu, lc, le, af, tr, ms, cl, tm) (co, yn, yh, pa) ++ R) s.heap := hP
  have hD : va_D (zAb B) (zWM cI cJ cZ h th (n, L) ((zcb kt pt), (zcb km pm), (zcb kl pl)) mc (run, wc, nu, lc, le, af, tr, ms, cl, tm) (co, yn, yh, pa) ++ R) := hD
  have h1 : ¬ nI key < 0 ∧ ¬ 26 ≤ nI key := ⟨nI_pos (by omega), nI_ge hkey (by decide)⟩
  refine lv_aload_n hx hb dX5_strike_0 rfl (lv_at hl 0 rfl) ?_
  refine lv_iconst (v := 0) hx hb dX5_strike_1 (by decide) ?_
  refine va_put (ci := 5) (v := .int 0) (ty := .int) (C := RX5) (T := TX5) (N := 20) hx hb hts hinX5 tyX5 tyX5_ok nmX5 hown hK hP hD hS 0 rfl rfl 0 (by decide) (hts (.fieldLink RX5 43 "TypingTutorModel" "thrown" "I") (List.mem_of_getElem? (i := 1) rfl)) (fun _ h9 => h9) rfl (by decide +kernel) rfl rfl (Nat.le_of_ble_eq_true rfl) dX5_strike_2 (fun H locs hP hD hS => ?_)
  have hP : va_P D vwCl (zWM cI cJ cZ h 0 (n, L) ((zcb kt pt), (zcb km pm), (zcb kl pl)) mc (run, wc, nu, lc, le, af, tr, ms, cl, tm) (co, yn, yh, pa) ++ R) _ := hP
  have hD : va_D (zAb B) (zWM cI cJ cZ h 0 (n, L) ((zcb kt pt), (zcb km pm), (zcb kl pl)) mc (run, wc, nu, lc, le, af, tr, ms, cl, tm) (co, yn, yh, pa) ++ R) := hD
  refine lv_iload_n hx hb dX5_strike_5 rfl (lv_at hl 1 rfl) ?_
  refine zci (zrS (As := [.int (nI key)]) (rest := []) ⟨hx, hb, hml, hown, hts⟩ (zS hP hD hK hE hB hS) (c_X5_isKey  ) (va_cwS 1 hts gX5_strike_X5_isKey rfl rfl rfl hds_X5_isKey ⟨Nat.le_of_ble_eq_true rfl, Nat.le_of_ble_eq_true rfl⟩) rfl rfl hl.1 rfl (lv_room (Nat.le_of_ble_eq_true rfl)) dX5_strike_6 ⟨Nat.le_of_ble_eq_true rfl, Nat.le_of_ble_eq_true rfl⟩) hS (fun H locs hP hD hS => ?_)
  have hP : va_P D vwCl (zWM cI cJ cZ h 0 (n, L) ((zcb kt pt), (zcb km pm), (zcb kl pl)) mc (run, wc, nu, lc, le, af, tr, ms, cl, tm) (co, yn, yh, pa) ++ R) _ := hP
  have hD : va_D (zAb B) (zWM cI cJ cZ h 0 (n, L) ((zcb kt pt), (zcb km pm), (zcb kl pl)) mc (run, wc, nu, lc, le, af, tr, ms, cl, tm) (co, yn, yh, pa) ++ R) := hD
  refine lv_if_ne (tgt := 18) hx hb dX5_strike_9 (by decide) (fun c_1 => ?_) (fun c_1 => ?_)
  · skip
    have c_1 := zq_n c_1
    refine lv_iload_n hx hb dX5_strike_18 rfl (lv_at hl 2 rfl) ?_
    refine lv_iconst (v := 1) hx hb dX5_strike_19 (by decide) ?_
    refine lv_icmp_lt (tgt := 30) hx hb dX5_strike_20 (by decide) (fun c_2 => ?_) (fun c_2 => ?_)
    · skip
      have c_2 : time < 1 := (nI_ltI (a := time) (b := 1) (by omega) (by omega)).mp c_2
      omega
    · skip
      have c_2 : ¬ time < 1 := fun hh => c_2 ((nI_ltI (a := time) (b := 1) (by omega) (by omega)).mpr hh)
      refine lv_iload_n hx hb dX5_strike_23 rfl (lv_at hl 2 rfl) ?_
      refine lv_sipush (v := 5000) hx hb dX5_strike_24 (by decide) ?_
      refine lv_icmp_le (tgt := 36) hx hb dX5_strike_27 (by decide) (fun c_3 => ?_) (fun c_3 => ?_)
      · skip
        have c_3 : time ≤ 5000 := (nI_leI (a := time) (b := 5000) (by omega) (by omega)).mp c_3
        refine lv_aload_n hx hb dX5_strike_36 rfl (lv_at hl 0 rfl) ?_
        refine va_get (ci := 5) (v := .int (zb run)) (C := RX5) (T := TX5) (N := 20) hx hb hts hinX5 hown hK hP 0 rfl rfl 7 (by decide) (hts (.fieldLink RX5 106 "TypingTutorModel" "isOpen" "Z") (List.mem_of_getElem? (i := 2) rfl)) (fun _ h9 => h9) rfl dX5_strike_37 ?_
        refine lv_if_ne (tgt := 49) hx hb dX5_strike_40 (by decide) (fun c_4 => ?_) (fun c_4 => ?_)
        · skip
          have c_4 : run = true := zb_n c_4
          refine lv_aload_n hx hb dX5_strike_49 rfl (lv_at hl 0 rfl) ?_
          refine lv_iload_n hx hb dX5_strike_50 rfl (lv_at hl 1 rfl) ?_
          refine zci (zrV (As := [.int (nI key)]) (rest := []) ⟨hx, hb, hml, hown, hts⟩ (zV 0 hP hD hK hE hB hS rfl rfl) (c_X5_kindOf (key := key) (ow := ow) (x := x) (hkey) (hM) (htr) (hlc) (hx9) (hx26)) (cwV 1 hts gX5_strike_X5_kindOf rfl rfl rfl hdv_X5_kindOf ⟨Nat.le_of_ble_eq_true rfl, Nat.le_of_ble_eq_true rfl⟩) rfl rfl hl.1 rfl (lv_room (Nat.le_of_ble_eq_true rfl)) dX5_strike_51 ⟨Nat.le_of_ble_eq_true rfl, Nat.le_of_ble_eq_true rfl⟩) hS (fun H locs hP hD hS => ?_)
          have hP : va_P D vwCl (zWM cI cJ cZ h 0 (n, L) ((zcb kt pt), (zcb km pm), (zcb kl pl)) mc (run, wc, nu, lc, le, af, tr, ms, cl, tm) (co, yn, yh, pa) ++ R) _ := hP
          have hD : va_D (zAb B) (zWM cI cJ cZ h 0 (n, L) ((zcb kt pt), (zcb km pm), (zcb kl pl)) mc (run, wc, nu, lc, le, af, tr, ms, cl, tm) (co, yn, yh, pa) ++ R) := hD
          rw [show (zkd (nI key) le ow lc tr) = (nI kk) from hkk]
          refine lv_istore_n (lv' := [(3, .int (nI kk)), (0, .ref (h 0)), (1, .int (nI key)), (2, .int (nI time))]) hx hb dX5_strike_54 rfl hl (by decide) rfl (fun ls hl => ?_)
          refine lv_aload_n hx hb dX5_strike_55 rfl (lv_at hl 1 rfl) ?_
          refine lv_dup hx hb dX5_strike_56 rfl ?_
          refine va_get (ci := 5) (v := .int (nI tm)) (C := RX5) (T := TX5) (N := 20) hx hb hts hinX5 hown hK hP 0 rfl rfl 16 (by decide) (hts (.fieldLink RX5 119 "TypingTutorModel" "time" "I") (List.mem_of_getElem? (i := 3) rfl)) (fun _ h9 => h9) rfl dX5_strike_57 ?_
          refine lv_iload_n hx hb dX5_strike_60 rfl (lv_at hl 3 rfl) ?_
          refine lv_iadd hx hb dX5_strike_61 ?_
          refine lv_topi (fun v_5 ev_5 => ?_)
          obtain rfl : v_5 = (nI (tm + time)) := ev_5.trans (nI_add tm time)
          refine va_put (ci := 5) (v := .int (nI (tm + time))) (ty := .int) (C := RX5) (T := TX5) (N := 20) hx hb hts hinX5 tyX5 tyX5_ok nmX5 hown hK hP hD hS 0 rfl rfl 16 (by decide) (hts (.fieldLink RX5 119 "TypingTutorModel" "time" "I") (List.mem_of_getElem? (i := 3) rfl)) (fun _ h9 => h9) rfl (by decide +kernel) rfl rfl (Nat.le_of_ble_eq_true rfl) dX5_strike_62 (fun H locs hP hD hS => ?_)
          have hP : va_P D vwCl (zWM cI cJ cZ h 0 (n, L) ((zcb kt pt), (zcb km pm), (zcb kl pl)) mc (run, wc, nu, lc, le, af, tr, ms, cl, (tm + time)) (co, yn, yh, pa) ++ R) _ := hP
          have hD : va_D (zAb B) (zWM cI cJ cZ h 0 (n, L) ((zcb kt pt), (zcb km pm), (zcb kl pl)) mc (run, wc, nu, lc, le, af, tr, ms, cl, (tm + time)) (co, yn, yh, pa) ++ R) := hD
          refine lv_aload_n hx hb dX5_strike_65 rfl (lv_at hl 1 rfl) ?_
          refine va_get (ci := 5) (v := .ref (h 5)) (C := RX5) (T := TX5) (N := 20) hx hb hts hinX5 hown hK hP 0 rfl rfl 6 (by decide) (hts (.fieldLink RX5 23 "TypingTutorModel" "kindCounts" "[I") (List.mem_of_getElem? (i := 4) rfl)) (fun _ h9 => h9) rfl dX5_strike_66 ?_
          refine lv_iload_n hx hb dX5_strike_69 rfl (lv_at hl 0 rfl) ?_
          refine lv_dup2_11 hx hb dX5_strike_70 rfl rfl ?_
          refine va_iald hx hb hK hP 5 0 rfl rfl (vp_in_nI (n := kk) (N := 5) (by omega) (by omega)) dX5_strike_71 ?_
          rw [pk_cl (x := (nI kk)) kk (rfl) (by omega)]
          refine lv_iload_n hx hb dX5_strike_72 rfl (lv_at hl 0 rfl) ?_
          refine lv_if_ne (tgt := 80) hx hb dX5_strike_73 (by decide) (fun c_6 => ?_) (fun c_6 => ?_)
          · skip
            have c_6 : ¬ kk = 0 := fun hh => c_6 ((nI_eq (a := kk) (b := 0) (by omega) (by omega)).mpr hh)
            refine lv_iconst (v := 1) hx hb dX5_strike_80 (by decide) ?_
            refine lv_iadd hx hb dX5_strike_81 ?_
            refine va_iast hx hb hK hP hD hS 5 0 rfl rfl (vp_in_nI (n := kk) (N := 5) (by omega) (by omega)) dX5_strike_82 (fun H locs hP hD hS => ?_)
            rw [pk_cl (x := (nI kk)) kk (rfl) (by omega)] at hP hD
            have hP : va_P D vwCl (zWM cI cJ cZ h 0 (n, L) ((zcb kt pt), (zcb km pm), (zcb kl pl)) (upd mc kk ((mc kk) + 1)) (run, wc, nu, lc, le, af, tr, ms, cl, (tm + time)) (co, yn, yh, pa) ++ R) _ := hP
            have hD : va_D (zAb B) (zWM cI cJ cZ h 0 (n, L) ((zcb kt pt), (zcb km pm), (zcb kl pl)) (upd mc kk ((mc kk) + 1)) (run, wc, nu, lc, le, af, tr, ms, cl, (tm + time)) (co, yn, yh, pa) ++ R) := hD
            refine lv_aload_n hx hb dX5_strike_83 rfl (lv_at hl 1 rfl) ?_
            refine lv_dup hx hb dX5_strike_84 rfl ?_
            refine va_get (ci := 5) (v := .int (nI ms)) (C := RX5) (T := TX5) (N := 20) hx hb hts hinX5 hown hK hP 0 rfl rfl 14 (by decide) (hts (.fieldLink RX5 113 "TypingTutorModel" "slips" "I") (List.mem_of_getElem? (i := 5) rfl)) (fun _ h9 => h9) rfl dX5_strike_85 ?_
            refine lv_iload_n hx hb dX5_strike_88 rfl (lv_at hl 0 rfl) ?_
            refine lv_if_ne (tgt := 96) hx hb dX5_strike_89 (by decide) (fun c_7 => ?_) (fun c_7 => ?_)
            · skip
              have c_7 : ¬ kk = 0 := fun hh => c_7 ((nI_eq (a := kk) (b := 0) (by omega) (by omega)).mpr hh)
              refine lv_iconst (v := 1) hx hb dX5_strike_96 (by decide) ?_
              refine lv_iadd hx hb dX5_strike_97 ?_
              refine lv_topi (fun v_8 ev_8 => ?_)
              obtain rfl : v_8 = (nI (ms + 1)) := ev_8.trans (nI_add ms 1)
              refine va_put (ci := 5) (v := .int (nI (ms + 1))) (ty := .int) (C := RX5) (T := TX5) (N := 20) hx hb hts hinX5 tyX5 tyX5_ok nmX5 hown hK hP hD hS 0 rfl rfl 14 (by decide) (hts (.fieldLink RX5 113 "TypingTutorModel" "slips" "I") (List.mem_of_getElem? (i := 5) rfl)) (fun _ h9 => h9) rfl (by decide +kernel) rfl rfl (Nat.le_of_ble_eq_true rfl) dX5_strike_98 (fun H locs hP hD hS => ?_)
              have hP : va_P D vwCl (zWM cI cJ cZ h 0 (n, L) ((zcb kt pt), (zcb km pm), (zcb kl pl)) (upd mc kk ((mc kk) + 1)) (run, wc, nu, lc, le, af, tr, (ms + 1), cl, (tm + time)) (co, yn, yh, pa) ++ R) _ := hP
              have hD : va_D (zAb B) (zWM cI cJ cZ h 0 (n, L) ((zcb kt pt), (zcb km pm), (zcb kl pl)) (upd mc kk ((mc kk) + 1)) (run, wc, nu, lc, le, af, tr, (ms + 1), cl, (tm + time)) (co, yn, yh, pa) ++ R) := hD
              refine lv_iload_n hx hb dX5_strike_101 rfl (lv_at hl 0 rfl) ?_
              refine lv_if_eq (tgt := 113) hx hb dX5_strike_102 (by decide) (fun c_9 => ?_) (fun c_9 => ?_)
              · skip
                have c_9 : kk = 0 := (nI_eq (a := kk) (b := 0) (by omega) (by omega)).mp c_9
                exfalso; first | omega | (revert c_9; decide) | (exact absurd rfl c_9) | simp_all
              · skip
                have c_9 : ¬ kk = 0 := fun hh => c_9 ((nI_eq (a := kk) (b := 0) (by omega) (by omega)).mpr hh)
                refine lv_aload_n hx hb dX5_strike_105 rfl (lv_at hl 1 rfl) ?_
                refine va_get (ci := 5) (v := .int (nI (ms + 1))) (C := RX5) (T := TX5) (N := 20) hx hb hts hinX5 hown hK hP 0 rfl rfl 14 (by decide) (hts (.fieldLink RX5 113 "TypingTutorModel" "slips" "I") (List.mem_of_getElem? (i := 5) rfl)) (fun _ h9 => h9) rfl dX5_strike_106 ?_
                refine lv_iconst (v := 2) hx hb dX5_strike_109 (by decide) ?_
                refine lv_icmp_ne (tgt := 118) hx hb dX5_strike_110 (by decide) (fun c_10 => ?_) (fun c_10 => ?_)
                · skip
                  have c_10 : ¬ (ms + 1) = 2 := fun hh => c_10 ((nI_eq (a := (ms + 1)) (b := 2) (by omega) (by omega)).mpr hh)
                  refine lv_iload_n hx hb dX5_strike_118 rfl (lv_at hl 0 rfl) ?_
                  refine W.widen (k := 1) (n := 1536) (Nat.le_of_ble_eq_true rfl) (Nat.le_of_ble_eq_true rfl) ?_
                  exact W.iret (v := (nI kk)) hx hb hr (fun t ht hW => ⟨⟨_, (h 9), rfl, rfl, by rw [ht]; exact hP, hD⟩, hS.F ht⟩) hS.2.2 dX5_strike_119
                · skip
                  have c_10 : (ms + 1) = 2 := (nI_eq (a := (ms + 1)) (b := 2) (by omega) (by omega)).mp c_10
                  exfalso; first | omega | (revert c_10; decide) | (exact absurd rfl c_10) | simp_all
            · skip
              have c_7 : kk = 0 := (nI_eq (a := kk) (b := 0) (by omega) (by omega)).mp c_7
              exfalso; first | omega | (revert c_7; decide) | (exact absurd rfl c_7) | simp_all
          · skip
            have c_6 : kk = 0 := (nI_eq (a := kk) (b := 0) (by omega) (by omega)).mp c_6
            exfalso; first | omega | (revert c_6; decide) | (exact absurd rfl c_6) | simp_all
        · skip
          have c_4 : run = false := zb_0 c_4
          exact absurd (c_4.symm.trans hrun) (by decide)
      · skip
        have c_3 : ¬ time ≤ 5000 := fun hh => c_3 ((nI_leI (a := time) (b := 5000) (by omega) (by omega)).mpr hh)
        omega
  · skip
    have c_1 := zq_0 c_1
    exact absurd h1 c_1

set_option maxHeartbeats 1000000 in
set_option maxRecDepth 100000 in
theorem c_X5_strike_w2 {l : Launch} {B kr kp : Nat} {D : va_G} {cI cJ cZ : ClassId} {h : Nat → Nat} {R : va_W} {th : Int32} {n : Nat} {L : Nat → Int64} {kt : Nat → Int32} {km : Nat → Int32} {kl : Nat → Int32} {pt : Nat → Int32} {pm : Nat → Int32} {pl : Nat → Int32} {nu : Nat → Int32} {le : Nat → Int32} {af : Nat → Int32} {run : Bool} {wc : Nat} {lc : Nat} {tr : Nat} {cl : Nat} {tm : Nat} {ms : Nat} {co : Nat} {yn : Nat} {yh : Nat → Int32} {pa : Int32} {mc : Nat → Int32} {key : Nat} {time : Nat} {ow : Nat → Int32} {x : Nat} {o : Option Nat} {fin : Bool} {g : Bool} {kk : Nat}  (hkey : key < 26) (ht1 : 1 ≤ time) (ht2 : time ≤ 5000) (hrun : run = true) (hM : zMk af ow lc) (hx9 : le tr = nI x) (hx26 : x < 26) (ho1 : o = none → ¬ af tr = 0) (ho2 : ∀ y, o = some y → af tr = 0 ∧ 0 < tr ∧ le (tr - 1) = nI y ∧ y < 26) (hf : zsel fin (tr + 1 = lc) (tr + 1 < lc)) (htr : tr < lc) (hlc : lc ≤ 48) (hcl : cl ≤ tr) (hco : co < 256) (h2ms : ms ≤ 2) (hg : zsel g (3 * co = yn) (3 * co + 3 ≤ yn)) (hyn : yn ≤ 1530) (hy12 : 12 ≤ yn) (hms : ms = 1) (hkk : zkd (nI key) le ow lc tr = nI kk) (hk1 : 1 ≤ kk) (hk4 : kk ≤ 4) : Met l yX5_strike wsX5_strike ({ frames := 6, cells := 1, slots := 1536, locals := 138 }) (zPc B kr kp D (zTy cI cJ cZ) (zWM cI cJ cZ h th (n, L) ((zcb kt pt), (zcb km pm), (zcb kl pl)) mc (run, wc, nu, lc, le, af, tr, ms, cl, tm) (co, yn, yh, pa) ++ R) [.ref (h 0), .int (nI key), .int (nI time)]) (zQih B D (fun q9 => (zWM cI cJ cZ (zh9 h q9) 0 (n, L) ((zcb (zkt kt x) (zou o x pt (zkt pt))), (zcb (zkm (zc0 (ms + 1)) km x) (zou o x pm (zkm (zc0 (ms + 1)) pm))), (zcb (zkl (zc0 (ms + 1)) kl x (nI time)) (zou o x pl (fun p => zkl (zc0 (ms + 1)) pl p (nI time))))) (upd mc kk (mc kk + 1)) ((zsel fin false run), wc, nu, lc, le, af, (tr + 1), 0, (zsel (zc0 (ms + 1)) (cl + 1) cl), (tm + time)) ((zsel fin (co + 1) co), (zsel fin (zyn g yn) yn), (zsel fin (zh3 (zyh g yh yn) co lc (zsel (zc0 (ms + 1)) (cl + 1) cl) (tm + time)) yh), (zsel fin (zpc pa lc (zsel (zc0 (ms + 1)) (cl + 1) cl)) pa)) ++ R)) (nI kk)) 1 1536 (zAb B) := by
  refine Met.ofW (cc := cX5_strike) (maxL := 4) (ret := (some .int)) (by decide) rfl ?_
  intro p e s m args below meth c s₁ B0 hml hv
  obtain ⟨rfl, hP, hD, hK, hE, hB⟩ := hv
  have hx := B0.exec
  have hb := B0.bytes
  have hr := B0.returns
  have hts := atoms_spec (ws := wsX5_strike) B0.pre
  have hown : s.vm.findClass RX5 = some m.cls := findClass_of_methodNamed B0.named
  have hlocks := B0.notSynchronized
  have hA : ∀ q : Nat, s.heap.size ≤ q → zAb B q := fun q hq => Nat.le_trans hB hq
  have hS : va_S (zAb B) s.heap s.heap [] := va_S.rf
  have hgr : s.heap.size ≤ s.heap.size := Nat.le_refl _
  have hl := lv_entry ([.ref (h 0), .int (nI key), .int (nI time)]) (n := 4) (Nat.le_of_ble_eq_true rfl)
  rw [lg_entry_eq]
  generalize (lg_sl ([.ref (h 0), .int (nI key), .int (nI time)]) ++ List.replicate (4 - (lg_sl ([.ref (h 0), .int (nI key), .int (nI time)])).length) Slot.unset).toArray = ls at hl ⊢
  have hl : lv_has ls 4 [(0, .ref (h 0)), (1, .int (nI key)), (2, .int (nI time))] := hl
  have hinX5 : ∀ w ∈ wsX50, w ∈ wsX5_strike := fun _ h => List.mem_cons_of_mem _ (List.mem_append_right _ h)
  have hP : va_P D vwCl (zWM cI cJ cZ h th (n, L) ((zcb kt pt), (zcb km pm), (zcb kl pl)) mc (run, wc, nu, lc, le, af, tr, ms, cl, tm) (co, yn, yh, pa) ++ R) s.heap := hP
  have hD : va_D (zAb B) (zWM cI cJ cZ h th (n, L) ((zcb kt pt), (zcb km pm), (zcb kl pl)) mc (run, wc, nu, lc, le, af, tr, ms, cl, tm) (co, yn, yh, pa) ++ R) := hD
  have h1 : ¬ nI key < 0 ∧ ¬ 26 ≤ nI key := ⟨nI_pos (by omega), nI_ge hkey (by decide)⟩
  refine lv_aload_n hx hb dX5_strike_0 rfl (lv_at hl 0 rfl) ?_
  refine lv_iconst (v := 0) hx hb dX5_strike_1 (by decide) ?_
  refine va_put (ci := 5) (v := .int 0) (ty := .int) (C := RX5) (T := TX5) (N := 20) hx hb hts hinX5 tyX5 tyX5_ok nmX5 hown hK hP hD hS 0 rfl rfl 0 (by decide) (hts (.fieldLink RX5 43 "TypingTutorModel" "thrown" "I") (List.mem_of_getElem? (i := 1) rfl)) (fun _ h9 => h9) rfl (by decide +kernel) rfl rfl (Nat.le_of_ble_eq_true rfl) dX5_strike_2 (fun H locs hP hD hS => ?_)
  have hP : va_P D vwCl (zWM cI cJ cZ h 0 (n, L) ((zcb kt pt), (zcb km pm), (zcb kl pl)) mc (run, wc, nu, lc, le, af, tr, ms, cl, tm) (co, yn, yh, pa) ++ R) _ := hP
  have hD : va_D (zAb B) (zWM cI cJ cZ h 0 (n, L) ((zcb kt pt), (zcb km pm), (zcb kl pl)) mc (run, wc, nu, lc, le, af, tr, ms, cl, tm) (co, yn, yh, pa) ++ R) := hD
  refine lv_iload_n hx hb dX5_strike_5 rfl (lv_at hl 1 rfl) ?_
  refine zci (zrS (As := [.int (nI key)]) (rest := []) ⟨hx, hb, hml, hown, hts⟩ (zS hP hD hK hE hB hS) (c_X5_isKey  ) (va_cwS 1 hts gX5_strike_X5_isKey rfl rfl rfl hds_X5_isKey ⟨Nat.le_of_ble_eq_true rfl, Nat.le_of_ble_eq_true rfl⟩) rfl rfl hl.1 rfl (lv_room (Nat.le_of_ble_eq_true rfl)) dX5_strike_6 ⟨Nat.le_of_ble_eq_true rfl, Nat.le_of_ble_eq_true rfl⟩) hS (fun H locs hP hD hS => ?_)
  have hP : va_P D vwCl (zWM cI cJ cZ h 0 (n, L) ((zcb kt pt), (zcb km pm), (zcb kl pl)) mc (run, wc, nu, lc, le, af, tr, ms, cl, tm) (co, yn, yh, pa) ++ R) _ := hP
  have hD : va_D (zAb B) (zWM cI cJ cZ h 0 (n, L) ((zcb kt pt), (zcb km pm), (zcb kl pl)) mc (run, wc, nu, lc, le, af, tr, ms, cl, tm) (co, yn, yh, pa) ++ R) := hD
  refine lv_if_ne (tgt := 18) hx hb dX5_strike_9 (by decide) (fun c_1 => ?_) (fun c_1 => ?_)
  · skip
    have c_1 := zq_n c_1
    refine lv_iload_n hx hb dX5_strike_18 rfl (lv_at hl 2 rfl) ?_
    refine lv_iconst (v := 1) hx hb dX5_strike_19 (by decide) ?_
    refine lv_icmp_lt (tgt := 30) hx hb dX5_strike_20 (by decide) (fun c_2 => ?_) (fun c_2 => ?_)
    · skip
      have c_2 : time < 1 := (nI_ltI (a := time) (b := 1) (by omega) (by omega)).mp c_2
      omega
    · skip
      have c_2 : ¬ time < 1 := fun hh => c_2 ((nI_ltI (a := time) (b := 1) (by omega) (by omega)).mpr hh)
      refine lv_iload_n hx hb dX5_strike_23 rfl (lv_at hl 2 rfl) ?_
      refine lv_sipush (v := 5000) hx hb dX5_strike_24 (by decide) ?_
      refine lv_icmp_le (tgt := 36) hx hb dX5_strike_27 (by decide) (fun c_3 => ?_) (fun c_3 => ?_)
      · skip
        have c_3 : time ≤ 5000 := (nI_leI (a := time) (b := 5000) (by omega) (by omega)).mp c_3
        refine lv_aload_n hx hb dX5_strike_36 rfl (lv_at hl 0 rfl) ?_
        refine va_get (ci := 5) (v := .int (zb run)) (C := RX5) (T := TX5) (N := 20) hx hb hts hinX5 hown hK hP 0 rfl rfl 7 (by decide) (hts (.fieldLink RX5 106 "TypingTutorModel" "isOpen" "Z") (List.mem_of_getElem? (i := 2) rfl)) (fun _ h9 => h9) rfl dX5_strike_37 ?_
        refine lv_if_ne (tgt := 49) hx hb dX5_strike_40 (by decide) (fun c_4 => ?_) (fun c_4 => ?_)
        · skip
          have c_4 : run = true := zb_n c_4
          refine lv_aload_n hx hb dX5_strike_49 rfl (lv_at hl 0 rfl) ?_
          refine lv_iload_n hx hb dX5_strike_50 rfl (lv_at hl 1 rfl) ?_
          refine zci (zrV (As := [.int (nI key)]) (rest := []) ⟨hx, hb, hml, hown, hts⟩ (zV 0 hP hD hK hE hB hS rfl rfl) (c_X5_kindOf (key := key) (ow := ow) (x := x) (hkey) (hM) (htr) (hlc) (hx9) (hx26)) (cwV 1 hts gX5_strike_X5_kindOf rfl rfl rfl hdv_X5_kindOf ⟨Nat.le_of_ble_eq_true rfl, Nat.le_of_ble_eq_true rfl⟩) rfl rfl hl.1 rfl (lv_room (Nat.le_of_ble_eq_true rfl)) dX5_strike_51 ⟨Nat.le_of_ble_eq_true rfl, Nat.le_of_ble_eq_true rfl⟩) hS (fun H locs hP hD hS => ?_)
          have hP : va_P D vwCl (zWM cI cJ cZ h 0 (n, L) ((zcb kt pt), (zcb km pm), (zcb kl pl)) mc (run, wc, nu, lc, le, af, tr, ms, cl, tm) (co, yn, yh, pa) ++ R) _ := hP
          have hD : va_D (zAb B) (zWM cI cJ cZ h 0 (n, L) ((zcb kt pt), (zcb km pm), (zcb kl pl)) mc (run, wc, nu, lc, le, af, tr, ms, cl, tm) (co, yn, yh, pa) ++ R) := hD
          rw [show (zkd (nI key) le ow lc tr) = (nI kk) from hkk]
          refine lv_istore_n (lv' := [(3, .int (nI kk)), (0, .ref (h 0)), (1, .int (nI key)), (2, .int (nI time))]) hx hb dX5_strike_54 rfl hl (by decide) rfl (fun ls hl => ?_)
          refine lv_aload_n hx hb dX5_strike_55 rfl (lv_at hl 1 rfl) ?_
          refine lv_dup hx hb dX5_strike_56 rfl ?_
          refine va_get (ci := 5) (v := .int (nI tm)) (C := RX5) (T := TX5) (N := 20) hx hb hts hinX5 hown hK hP 0 rfl rfl 16 (by decide) (hts (.fieldLink RX5 119 "TypingTutorModel" "time" "I") (List.mem_of_getElem? (i := 3) rfl)) (fun _ h9 => h9) rfl dX5_strike_57 ?_
          refine lv_iload_n hx hb dX5_strike_60 rfl (lv_at hl 3 rfl) ?_
          refine lv_iadd hx hb dX5_strike_61 ?_
          refine lv_topi (fun v_5 ev_5 => ?_)
          obtain rfl : v_5 = (nI (tm + time)) := ev_5.trans (nI_add tm time)
          refine va_put (ci := 5) (v := .int (nI (tm + time))) (ty := .int) (C := RX5) (T := TX5) (N := 20) hx hb hts hinX5 tyX5 tyX5_ok nmX5 hown hK hP hD hS 0 rfl rfl 16 (by decide) (hts (.fieldLink RX5 119 "TypingTutorModel" "time" "I") (List.mem_of_getElem? (i := 3) rfl)) (fun _ h9 => h9) rfl (by decide +kernel) rfl rfl (Nat.le_of_ble_eq_true rfl) dX5_strike_62 (fun H locs hP hD hS => ?_)
          have hP : va_P D vwCl (zWM cI cJ cZ h 0 (n, L) ((zcb kt pt), (zcb km pm), (zcb kl pl)) mc (run, wc, nu, lc, le, af, tr, ms, cl, (tm + time)) (co, yn, yh, pa) ++ R) _ := hP
          have hD : va_D (zAb B) (zWM cI cJ cZ h 0 (n, L) ((zcb kt pt), (zcb km pm), (zcb kl pl)) mc (run, wc, nu, lc, le, af, tr, ms, cl, (tm + time)) (co, yn, yh, pa) ++ R) := hD
          refine lv_aload_n hx hb dX5_strike_65 rfl (lv_at hl 1 rfl) ?_
          refine va_get (ci := 5) (v := .ref (h 5)) (C := RX5) (T := TX5) (N := 20) hx hb hts hinX5 hown hK hP 0 rfl rfl 6 (by decide) (hts (.fieldLink RX5 23 "TypingTutorModel" "kindCounts" "[I") (List.mem_of_getElem? (i := 4) rfl)) (fun _ h9 => h9) rfl dX5_strike_66 ?_
          refine lv_iload_n hx hb dX5_strike_69 rfl (lv_at hl 0 rfl) ?_
          refine lv_dup2_11 hx hb dX5_strike_70 rfl rfl ?_
          refine va_iald hx hb hK hP 5 0 rfl rfl (vp_in_nI (n := kk) (N := 5) (by omega) (by omega)) dX5_strike_71 ?_
          rw [pk_cl (x := (nI kk)) kk (rfl) (by omega)]
          refine lv_iload_n hx hb dX5_strike_72 rfl (lv_at hl 0 rfl) ?_
          refine lv_if_ne (tgt := 80) hx hb dX5_strike_73 (by decide) (fun c_6 => ?_) (fun c_6 => ?_)
          · skip
            have c_6 : ¬ kk = 0 := fun hh => c_6 ((nI_eq (a := kk) (b := 0) (by omega) (by omega)).mpr hh)
            refine lv_iconst (v := 1) hx hb dX5_strike_80 (by decide) ?_
            refine lv_iadd hx hb dX5_strike_81 ?_
            refine va_iast hx hb hK hP hD hS 5 0 rfl rfl (vp_in_nI (n := kk) (N := 5) (by omega) (by omega)) dX5_strike_82 (fun H locs hP hD hS => ?_)
            rw [pk_cl (x := (nI kk)) kk (rfl) (by omega)] at hP hD
            have hP : va_P D vwCl (zWM cI cJ cZ h 0 (n, L) ((zcb kt pt), (zcb km pm), (zcb kl pl)) (upd mc kk ((mc kk) + 1)) (run, wc, nu, lc, le, af, tr, ms, cl, (tm + time)) (co, yn, yh, pa) ++ R) _ := hP
            have hD : va_D (zAb B) (zWM cI cJ cZ h 0 (n, L) ((zcb kt pt), (zcb km pm), (zcb kl pl)) (upd mc kk ((mc kk) + 1)) (run, wc, nu, lc, le, af, tr, ms, cl, (tm + time)) (co, yn, yh, pa) ++ R) := hD
            refine lv_aload_n hx hb dX5_strike_83 rfl (lv_at hl 1 rfl) ?_
            refine lv_dup hx hb dX5_strike_84 rfl ?_
            refine va_get (ci := 5) (v := .int (nI ms)) (C := RX5) (T := TX5) (N := 20) hx hb hts hinX5 hown hK hP 0 rfl rfl 14 (by decide) (hts (.fieldLink RX5 113 "TypingTutorModel" "slips" "I") (List.mem_of_getElem? (i := 5) rfl)) (fun _ h9 => h9) rfl dX5_strike_85 ?_
            refine lv_iload_n hx hb dX5_strike_88 rfl (lv_at hl 0 rfl) ?_
            refine lv_if_ne (tgt := 96) hx hb dX5_strike_89 (by decide) (fun c_7 => ?_) (fun c_7 => ?_)
            · skip
              have c_7 : ¬ kk = 0 := fun hh => c_7 ((nI_eq (a := kk) (b := 0) (by omega) (by omega)).mpr hh)
              refine lv_iconst (v := 1) hx hb dX5_strike_96 (by decide) ?_
              refine lv_iadd hx hb dX5_strike_97 ?_
              refine lv_topi (fun v_8 ev_8 => ?_)
              obtain rfl : v_8 = (nI (ms + 1)) := ev_8.trans (nI_add ms 1)
              refine va_put (ci := 5) (v := .int (nI (ms + 1))) (ty := .int) (C := RX5) (T := TX5) (N := 20) hx hb hts hinX5 tyX5 tyX5_ok nmX5 hown hK hP hD hS 0 rfl rfl 14 (by decide) (hts (.fieldLink RX5 113 "TypingTutorModel" "slips" "I") (List.mem_of_getElem? (i := 5) rfl)) (fun _ h9 => h9) rfl (by decide +kernel) rfl rfl (Nat.le_of_ble_eq_true rfl) dX5_strike_98 (fun H locs hP hD hS => ?_)
              have hP : va_P D vwCl (zWM cI cJ cZ h 0 (n, L) ((zcb kt pt), (zcb km pm), (zcb kl pl)) (upd mc kk ((mc kk) + 1)) (run, wc, nu, lc, le, af, tr, (ms + 1), cl, (tm + time)) (co, yn, yh, pa) ++ R) _ := hP
              have hD : va_D (zAb B) (zWM cI cJ cZ h 0 (n, L) ((zcb kt pt), (zcb km pm), (zcb kl pl)) (upd mc kk ((mc kk) + 1)) (run, wc, nu, lc, le, af, tr, (ms + 1), cl, (tm + time)) (co, yn, yh, pa) ++ R) := hD
              refine lv_iload_n hx hb dX5_strike_101 rfl (lv_at hl 0 rfl) ?_
              refine lv_if_eq (tgt := 113) hx hb dX5_strike_102 (by decide) (fun c_9 => ?_) (fun c_9 => ?_)
              · skip
                have c_9 : kk = 0 := (nI_eq (a := kk) (b := 0) (by omega) (by omega)).mp c_9
                exfalso; first | omega | (revert c_9; decide) | (exact absurd rfl c_9) | simp_all
              · skip
                have c_9 : ¬ kk = 0 := fun hh => c_9 ((nI_eq (a := kk) (b := 0) (by omega) (by omega)).mpr hh)
                refine lv_aload_n hx hb dX5_strike_105 rfl (lv_at hl 1 rfl) ?_
                refine va_get (ci := 5) (v := .int (nI (ms + 1))) (C := RX5) (T := TX5) (N := 20) hx hb hts hinX5 hown hK hP 0 rfl rfl 14 (by decide) (hts (.fieldLink RX5 113 "TypingTutorModel" "slips" "I") (List.mem_of_getElem? (i := 5) rfl)) (fun _ h9 => h9) rfl dX5_strike_106 ?_
                refine lv_iconst (v := 2) hx hb dX5_strike_109 (by decide) ?_
                refine lv_icmp_ne (tgt := 118) hx hb dX5_strike_110 (by decide) (fun c_10 => ?_) (fun c_10 => ?_)
                · skip
                  have c_10 : ¬ (ms + 1) = 2 := fun hh => c_10 ((nI_eq (a := (ms + 1)) (b := 2) (by omega) (by omega)).mpr hh)
                  exfalso; first | omega | (revert c_10; decide) | (exact absurd rfl c_10) | simp_all
                · skip
                  have c_10 : (ms + 1) = 2 := (nI_eq (a := (ms + 1)) (b := 2) (by omega) (by omega)).mp c_10
                  refine lv_aload_n hx hb dX5_strike_113 rfl (lv_at hl 1 rfl) ?_
                  refine lv_iload_n hx hb dX5_strike_114 rfl (lv_at hl 3 rfl) ?_
                  refine zcvh (zrV (As := [.int (nI time)]) (rest := []) ⟨hx, hb, hml, hown, hts⟩ (zV 0 hP hD hK hE hB hS rfl rfl) (c_X5_tryLetter (x := x) (o := o) (fin := fin) (g := g) (hx9) (hx26) (ho1) (ho2) (hf) (htr) (hlc) (hcl) (hco) (by omega) (hg) (hyn) (hy12)) (cwV 1 hts gX5_strike_X5_tryLetter rfl rfl rfl hdv_X5_tryLetter ⟨Nat.le_of_ble_eq_true rfl, Nat.le_of_ble_eq_true rfl⟩) rfl rfl hl.1 rfl (lv_room (Nat.le_of_ble_eq_true rfl)) dX5_strike_115 ⟨Nat.le_of_ble_eq_true rfl, Nat.le_of_ble_eq_true rfl⟩) hS (fun q9 H locs hP hD hS => ?_)
                  have hP : va_P D vwCl (zWM cI cJ cZ (zh9 h q9) 0 (n, L) ((zcb (zkt kt x) (zou o x pt (zkt pt))), (zcb (zkm (zc0 (ms + 1)) km x) (zou o x pm (zkm (zc0 (ms + 1)) pm))), (zcb (zkl (zc0 (ms + 1)) kl x (nI time)) (zou o x pl (fun p => zkl (zc0 (ms + 1)) pl p (nI time))))) (upd mc kk ((mc kk) + 1)) ((zsel fin false run), wc, nu, lc, le, af, (tr + 1), 0, (zsel (zc0 (ms + 1)) (cl + 1) cl), (tm + time)) ((zsel fin (co + 1) co), (zsel fin (zyn g yn) yn), (zsel fin (zh3 (zyh g yh yn) co lc (zsel (zc0 (ms + 1)) (cl + 1) cl) (tm + time)) yh), (zsel fin (zpc pa lc (zsel (zc0 (ms + 1)) (cl + 1) cl)) pa)) ++ R) _ := hP
                  have hD : va_D (zAb B) (zWM cI cJ cZ (zh9 h q9) 0 (n, L) ((zcb (zkt kt x) (zou o x pt (zkt pt))), (zcb (zkm (zc0 (ms + 1)) km x) (zou o x pm (zkm (zc0 (ms + 1)) pm))), (zcb (zkl (zc0 (ms + 1)) kl x (nI time)) (zou o x pl (fun p => zkl (zc0 (ms + 1)) pl p (nI time))))) (upd mc kk ((mc kk) + 1)) ((zsel fin false run), wc, nu, lc, le, af, (tr + 1), 0, (zsel (zc0 (ms + 1)) (cl + 1) cl), (tm + time)) ((zsel fin (co + 1) co), (zsel fin (zyn g yn) yn), (zsel fin (zh3 (zyh g yh yn) co lc (zsel (zc0 (ms + 1)) (cl + 1) cl) (tm + time)) yh), (zsel fin (zpc pa lc (zsel (zc0 (ms + 1)) (cl + 1) cl)) pa)) ++ R) := hD
                  refine lv_iload_n hx hb dX5_strike_118 rfl (lv_at hl 0 rfl) ?_
                  exact W.iret (v := (nI kk)) hx hb hr (fun t ht hW => ⟨⟨_, q9, rfl, rfl, by rw [ht]; exact hP, hD⟩, hS.F ht⟩) hS.2.2 dX5_strike_119
            · skip
              have c_7 : kk = 0 := (nI_eq (a := kk) (b := 0) (by omega) (by omega)).mp c_7
              exfalso; first | omega | (revert c_7; decide) | (exact absurd rfl c_7) | simp_all
          · skip
            have c_6 : kk = 0 := (nI_eq (a := kk) (b := 0) (by omega) (by omega)).mp c_6
            exfalso; first | omega | (revert c_6; decide) | (exact absurd rfl c_6) | simp_all
        · skip
          have c_4 : run = false := zb_0 c_4
          exact absurd (c_4.symm.trans hrun) (by decide)
      · skip
        have c_3 : ¬ time ≤ 5000 := fun hh => c_3 ((nI_leI (a := time) (b := 5000) (by omega) (by omega)).mpr hh)
        omega
  · skip
    have c_1 := zq_0 c_1
    exact absurd h1 c_1

set_option maxHeartbeats 1000000 in
set_option maxRecDepth 100000 in
theorem c_X5_strike_x1 {l : Launch} {B kr kp : Nat} {D : va_G} {cI cJ cZ : ClassId} {h : Nat → Nat} {R : va_W} {th : Int32} {n : Nat} {L : Nat → Int64} {kt : Nat → Int32} {km : Nat → Int32} {kl : Nat → Int32} {pt : Nat → Int32} {pm : Nat → Int32} {pl : Nat → Int32} {nu : Nat → Int32} {le : Nat → Int32} {af : Nat → Int32} {run : Bool} {wc : Nat} {lc : Nat} {tr : Nat} {cl : Nat} {tm : Nat} {ms : Nat} {co : Nat} {yn : Nat} {yh : Nat → Int32} {pa : Int32} {mc : Nat → Int32} {key : Int32} {time : Int32}   (h1 : ¬ (¬ key < 0 ∧ ¬ 26 ≤ key)) : Met l yX5_strike wsX5_strike ({ frames := 1, cells := 0, slots := 0, locals := 21 }) (zPc B kr kp D (zTy cI cJ cZ) (zWM cI cJ cZ h th (n, L) ((zcb kt pt), (zcb km pm), (zcb kl pl)) mc (run, wc, nu, lc, le, af, tr, ms, cl, tm) (co, yn, yh, pa) ++ R) [.ref (h 0), .int key, .int time]) (zQi B D (zWM cI cJ cZ h 1 (n, L) ((zcb kt pt), (zcb km pm), (zcb kl pl)) mc (run, wc, nu, lc, le, af, tr, ms, cl, tm) (co, yn, yh, pa) ++ R) 0) 0 0 (zAb B) := by
  refine Met.ofW (cc := cX5_strike) (maxL := 4) (ret := (some .int)) (by decide) rfl ?_
  intro p e s m args below meth c s₁ B0 hml hv
  obtain ⟨rfl, hP, hD, hK, hE, hB⟩ := hv
  have hx := B0.exec
  have hb := B0.bytes
  have hr := B0.returns
  have hts := atoms_spec (ws := wsX5_strike) B0.pre
  have hown : s.vm.findClass RX5 = some m.cls := findClass_of_methodNamed B0.named
  have hlocks := B0.notSynchronized
  have hA : ∀ q : Nat, s.heap.size ≤ q → zAb B q := fun q hq => Nat.le_trans hB hq
  have hS : va_S (zAb B) s.heap s.heap [] := va_S.rf
  have hgr : s.heap.size ≤ s.heap.size := Nat.le_refl _
  have hl := lv_entry ([.ref (h 0), .int key, .int time]) (n := 4) (Nat.le_of_ble_eq_true rfl)
  rw [lg_entry_eq]
  generalize (lg_sl ([.ref (h 0), .int key, .int time]) ++ List.replicate (4 - (lg_sl ([.ref (h 0), .int key, .int time])).length) Slot.unset).toArray = ls at hl ⊢
  have hl : lv_has ls 4 [(0, .ref (h 0)), (1, .int key), (2, .int time)] := hl
  have hinX5 : ∀ w ∈ wsX50, w ∈ wsX5_strike := fun _ h => List.mem_cons_of_mem _ (List.mem_append_right _ h)
  have hP : va_P D vwCl (zWM cI cJ cZ h th (n, L) ((zcb kt pt), (zcb km pm), (zcb kl pl)) mc (run, wc, nu, lc, le, af, tr, ms, cl, tm) (co, yn, yh, pa) ++ R) s.heap := hP
  have hD : va_D (zAb B) (zWM cI cJ cZ h th (n, L) ((zcb kt pt), (zcb km pm), (zcb kl pl)) mc (run, wc, nu, lc, le, af, tr, ms, cl, tm) (co, yn, yh, pa) ++ R) := hD
  refine lv_aload_n hx hb dX5_strike_0 rfl (lv_at hl 0 rfl) ?_
  refine lv_iconst (v := 0) hx hb dX5_strike_1 (by decide) ?_
  refine va_put (ci := 5) (v := .int 0) (ty := .int) (C := RX5) (T := TX5) (N := 20) hx hb hts hinX5 tyX5 tyX5_ok nmX5 hown hK hP hD hS 0 rfl rfl 0 (by decide) (hts (.fieldLink RX5 43 "TypingTutorModel" "thrown" "I") (List.mem_of_getElem? (i := 1) rfl)) (fun _ h9 => h9) rfl (by decide +kernel) rfl rfl (Nat.le_of_ble_eq_true rfl) dX5_strike_2 (fun H locs hP hD hS => ?_)
  have hP : va_P D vwCl (zWM cI cJ cZ h 0 (n, L) ((zcb kt pt), (zcb km pm), (zcb kl pl)) mc (run, wc, nu, lc, le, af, tr, ms, cl, tm) (co, yn, yh, pa) ++ R) _ := hP
  have hD : va_D (zAb B) (zWM cI cJ cZ h 0 (n, L) ((zcb kt pt), (zcb km pm), (zcb kl pl)) mc (run, wc, nu, lc, le, af, tr, ms, cl, tm) (co, yn, yh, pa) ++ R) := hD
  refine lv_iload_n hx hb dX5_strike_5 rfl (lv_at hl 1 rfl) ?_
  refine zci (zrS (As := [.int key]) (rest := []) ⟨hx, hb, hml, hown, hts⟩ (zS hP hD hK hE hB hS) (c_X5_isKey  ) (va_cwS 1 hts gX5_strike_X5_isKey rfl rfl rfl hds_X5_isKey ⟨Nat.le_of_ble_eq_true rfl, Nat.le_of_ble_eq_true rfl⟩) rfl rfl hl.1 rfl (lv_room (Nat.le_of_ble_eq_true rfl)) dX5_strike_6 ⟨Nat.le_of_ble_eq_true rfl, Nat.le_of_ble_eq_true rfl⟩) hS (fun H locs hP hD hS => ?_)
  have hP : va_P D vwCl (zWM cI cJ cZ h 0 (n, L) ((zcb kt pt), (zcb km pm), (zcb kl pl)) mc (run, wc, nu, lc, le, af, tr, ms, cl, tm) (co, yn, yh, pa) ++ R) _ := hP
  have hD : va_D (zAb B) (zWM cI cJ cZ h 0 (n, L) ((zcb kt pt), (zcb km pm), (zcb kl pl)) mc (run, wc, nu, lc, le, af, tr, ms, cl, tm) (co, yn, yh, pa) ++ R) := hD
  refine lv_if_ne (tgt := 18) hx hb dX5_strike_9 (by decide) (fun c_1 => ?_) (fun c_1 => ?_)
  · skip
    have c_1 := zq_n c_1
    exact absurd c_1 h1
  · skip
    have c_1 := zq_0 c_1
    refine lv_aload_n hx hb dX5_strike_12 rfl (lv_at hl 0 rfl) ?_
    refine lv_iconst (v := 1) hx hb dX5_strike_13 (by decide) ?_
    refine zci (zrV (As := [.int 1]) (rest := []) ⟨hx, hb, hml, hown, hts⟩ (zV 0 hP hD hK hE hB hS rfl rfl) (c_X5_fail  ) (cwV 1 hts gX5_strike_X5_fail rfl rfl rfl hdv_X5_fail ⟨Nat.le_of_ble_eq_true rfl, Nat.le_of_ble_eq_true rfl⟩) rfl rfl hl.1 rfl (lv_room (Nat.le_of_ble_eq_true rfl)) dX5_strike_14 ⟨Nat.le_of_ble_eq_true rfl, Nat.le_of_ble_eq_true rfl⟩) hS (fun H locs hP hD hS => ?_)
    have hP : va_P D vwCl (zWM cI cJ cZ h 1 (n, L) ((zcb kt pt), (zcb km pm), (zcb kl pl)) mc (run, wc, nu, lc, le, af, tr, ms, cl, tm) (co, yn, yh, pa) ++ R) _ := hP
    have hD : va_D (zAb B) (zWM cI cJ cZ h 1 (n, L) ((zcb kt pt), (zcb km pm), (zcb kl pl)) mc (run, wc, nu, lc, le, af, tr, ms, cl, tm) (co, yn, yh, pa) ++ R) := hD
    exact W.iret (v := 0) hx hb hr (fun t ht hW => ⟨⟨_, (), rfl, rfl, by rw [ht]; exact hP, hD⟩, hS.F ht⟩) hS.2.2 dX5_strike_17

set_option maxHeartbeats 1000000 in
set_option maxRecDepth 100000 in
theorem c_X5_strike_x2 {l : Launch} {B kr kp : Nat} {D : va_G} {cI cJ cZ : ClassId} {h : Nat → Nat} {R : va_W} {th : Int32} {n : Nat} {L : Nat → Int64} {kt : Nat → Int32} {km : Nat → Int32} {kl : Nat → Int32} {pt : Nat → Int32} {pm : Nat → Int32} {pl : Nat → Int32} {nu : Nat → Int32} {le : Nat → Int32} {af : Nat → Int32} {run : Bool} {wc : Nat} {lc : Nat} {tr : Nat} {cl : Nat} {tm : Nat} {ms : Nat} {co : Nat} {yn : Nat} {yh : Nat → Int32} {pa : Int32} {mc : Nat → Int32} {key : Int32} {time : Int32}   (h1 : ¬ key < 0 ∧ ¬ 26 ≤ key) (ht9x : time < 1 ∨ ¬ time ≤ 5000) : Met l yX5_strike wsX5_strike ({ frames := 1, cells := 0, slots := 0, locals := 21 }) (zPc B kr kp D (zTy cI cJ cZ) (zWM cI cJ cZ h th (n, L) ((zcb kt pt), (zcb km pm), (zcb kl pl)) mc (run, wc, nu, lc, le, af, tr, ms, cl, tm) (co, yn, yh, pa) ++ R) [.ref (h 0), .int key, .int time]) (zQi B D (zWM cI cJ cZ h 2 (n, L) ((zcb kt pt), (zcb km pm), (zcb kl pl)) mc (run, wc, nu, lc, le, af, tr, ms, cl, tm) (co, yn, yh, pa) ++ R) 0) 0 0 (zAb B) := by
  refine Met.ofW (cc := cX5_strike) (maxL := 4) (ret := (some .int)) (by decide) rfl ?_
  intro p e s m args below meth c s₁ B0 hml hv
  obtain ⟨rfl, hP, hD, hK, hE, hB⟩ := hv
  have hx := B0.exec
  have hb := B0.bytes
  have hr := B0.returns
  have hts := atoms_spec (ws := wsX5_strike) B0.pre
  have hown : s.vm.findClass RX5 = some m.cls := findClass_of_methodNamed B0.named
  have hlocks := B0.notSynchronized
  have hA : ∀ q : Nat, s.heap.size ≤ q → zAb B q := fun q hq => Nat.le_trans hB hq
  have hS : va_S (zAb B) s.heap s.heap [] := va_S.rf
  have hgr : s.heap.size ≤ s.heap.size := Nat.le_refl _
  have hl := lv_entry ([.ref (h 0), .int key, .int time]) (n := 4) (Nat.le_of_ble_eq_true rfl)
  rw [lg_entry_eq]
  generalize (lg_sl ([.ref (h 0), .int key, .int time]) ++ List.replicate (4 - (lg_sl ([.ref (h 0), .int key, .int time])).length) Slot.unset).toArray = ls at hl ⊢
  have hl : lv_has ls 4 [(0, .ref (h 0)), (1, .int key), (2, .int time)] := hl
  have hinX5 : ∀ w ∈ wsX50, w ∈ wsX5_strike := fun _ h => List.mem_cons_of_mem _ (List.mem_append_right _ h)
  have hP : va_P D vwCl (zWM cI cJ cZ h th (n, L) ((zcb kt pt), (zcb km pm), (zcb kl pl)) mc (run, wc, nu, lc, le, af, tr, ms, cl, tm) (co, yn, yh, pa) ++ R) s.heap := hP
  have hD : va_D (zAb B) (zWM cI cJ cZ h th (n, L) ((zcb kt pt), (zcb km pm), (zcb kl pl)) mc (run, wc, nu, lc, le, af, tr, ms, cl, tm) (co, yn, yh, pa) ++ R) := hD
  refine lv_aload_n hx hb dX5_strike_0 rfl (lv_at hl 0 rfl) ?_
  refine lv_iconst (v := 0) hx hb dX5_strike_1 (by decide) ?_
  refine va_put (ci := 5) (v := .int 0) (ty := .int) (C := RX5) (T := TX5) (N := 20) hx hb hts hinX5 tyX5 tyX5_ok nmX5 hown hK hP hD hS 0 rfl rfl 0 (by decide) (hts (.fieldLink RX5 43 "TypingTutorModel" "thrown" "I") (List.mem_of_getElem? (i := 1) rfl)) (fun _ h9 => h9) rfl (by decide +kernel) rfl rfl (Nat.le_of_ble_eq_true rfl) dX5_strike_2 (fun H locs hP hD hS => ?_)
  have hP : va_P D vwCl (zWM cI cJ cZ h 0 (n, L) ((zcb kt pt), (zcb km pm), (zcb kl pl)) mc (run, wc, nu, lc, le, af, tr, ms, cl, tm) (co, yn, yh, pa) ++ R) _ := hP
  have hD : va_D (zAb B) (zWM cI cJ cZ h 0 (n, L) ((zcb kt pt), (zcb km pm), (zcb kl pl)) mc (run, wc, nu, lc, le, af, tr, ms, cl, tm) (co, yn, yh, pa) ++ R) := hD
  refine lv_iload_n hx hb dX5_strike_5 rfl (lv_at hl 1 rfl) ?_
  refine zci (zrS (As := [.int key]) (rest := []) ⟨hx, hb, hml, hown, hts⟩ (zS hP hD hK hE hB hS) (c_X5_isKey  ) (va_cwS 1 hts gX5_strike_X5_isKey rfl rfl rfl hds_X5_isKey ⟨Nat.le_of_ble_eq_true rfl, Nat.le_of_ble_eq_true rfl⟩) rfl rfl hl.1 rfl (lv_room (Nat.le_of_ble_eq_true rfl)) dX5_strike_6 ⟨Nat.le_of_ble_eq_true rfl, Nat.le_of_ble_eq_true rfl⟩) hS (fun H locs hP hD hS => ?_)
  have hP : va_P D vwCl (zWM cI cJ cZ h 0 (n, L) ((zcb kt pt), (zcb km pm), (zcb kl pl)) mc (run, wc, nu, lc, le, af, tr, ms, cl, tm) (co, yn, yh, pa) ++ R) _ := hP
  have hD : va_D (zAb B) (zWM cI cJ cZ h 0 (n, L) ((zcb kt pt), (zcb km pm), (zcb kl pl)) mc (run, wc, nu, lc, le, af, tr, ms, cl, tm) (co, yn, yh, pa) ++ R) := hD
  refine lv_if_ne (tgt := 18) hx hb dX5_strike_9 (by decide) (fun c_1 => ?_) (fun c_1 => ?_)
  · skip
    have c_1 := zq_n c_1
    refine lv_iload_n hx hb dX5_strike_18 rfl (lv_at hl 2 rfl) ?_
    refine lv_iconst (v := 1) hx hb dX5_strike_19 (by decide) ?_
    refine lv_icmp_lt (tgt := 30) hx hb dX5_strike_20 (by decide) (fun c_2 => ?_) (fun c_2 => ?_)
    · skip
      refine lv_aload_n hx hb dX5_strike_30 rfl (lv_at hl 0 rfl) ?_
      refine lv_iconst (v := 2) hx hb dX5_strike_31 (by decide) ?_
      refine zci (zrV (As := [.int 2]) (rest := []) ⟨hx, hb, hml, hown, hts⟩ (zV 0 hP hD hK hE hB hS rfl rfl) (c_X5_fail  ) (cwV 1 hts gX5_strike_X5_fail rfl rfl rfl hdv_X5_fail ⟨Nat.le_of_ble_eq_true rfl, Nat.le_of_ble_eq_true rfl⟩) rfl rfl hl.1 rfl (lv_room (Nat.le_of_ble_eq_true rfl)) dX5_strike_32 ⟨Nat.le_of_ble_eq_true rfl, Nat.le_of_ble_eq_true rfl⟩) hS (fun H locs hP hD hS => ?_)
      have hP : va_P D vwCl (zWM cI cJ cZ h 2 (n, L) ((zcb kt pt), (zcb km pm), (zcb kl pl)) mc (run, wc, nu, lc, le, af, tr, ms, cl, tm) (co, yn, yh, pa) ++ R) _ := hP
      have hD : va_D (zAb B) (zWM cI cJ cZ h 2 (n, L) ((zcb kt pt), (zcb km pm), (zcb kl pl)) mc (run, wc, nu, lc, le, af, tr, ms, cl, tm) (co, yn, yh, pa) ++ R) := hD
      exact W.iret (v := 0) hx hb hr (fun t ht hW => ⟨⟨_, (), rfl, rfl, by rw [ht]; exact hP, hD⟩, hS.F ht⟩) hS.2.2 dX5_strike_35
    · skip
      refine lv_iload_n hx hb dX5_strike_23 rfl (lv_at hl 2 rfl) ?_
      refine lv_sipush (v := 5000) hx hb dX5_strike_24 (by decide) ?_
      refine lv_icmp_le (tgt := 36) hx hb dX5_strike_27 (by decide) (fun c_3 => ?_) (fun c_3 => ?_)
      · skip
        exact ht9x.elim (fun q => absurd q c_2) (fun q => absurd c_3 q)
      · skip
        refine lv_aload_n hx hb dX5_strike_30 rfl (lv_at hl 0 rfl) ?_
        refine lv_iconst (v := 2) hx hb dX5_strike_31 (by decide) ?_
        refine zci (zrV (As := [.int 2]) (rest := []) ⟨hx, hb, hml, hown, hts⟩ (zV 0 hP hD hK hE hB hS rfl rfl) (c_X5_fail  ) (cwV 1 hts gX5_strike_X5_fail rfl rfl rfl hdv_X5_fail ⟨Nat.le_of_ble_eq_true rfl, Nat.le_of_ble_eq_true rfl⟩) rfl rfl hl.1 rfl (lv_room (Nat.le_of_ble_eq_true rfl)) dX5_strike_32 ⟨Nat.le_of_ble_eq_true rfl, Nat.le_of_ble_eq_true rfl⟩) hS (fun H locs hP hD hS => ?_)
        have hP : va_P D vwCl (zWM cI cJ cZ h 2 (n, L) ((zcb kt pt), (zcb km pm), (zcb kl pl)) mc (run, wc, nu, lc, le, af, tr, ms, cl, tm) (co, yn, yh, pa) ++ R) _ := hP
        have hD : va_D (zAb B) (zWM cI cJ cZ h 2 (n, L) ((zcb kt pt), (zcb km pm), (zcb kl pl)) mc (run, wc, nu, lc, le, af, tr, ms, cl, tm) (co, yn, yh, pa) ++ R) := hD
        exact W.iret (v := 0) hx hb hr (fun t ht hW => ⟨⟨_, (), rfl, rfl, by rw [ht]; exact hP, hD⟩, hS.F ht⟩) hS.2.2 dX5_strike_35
  · skip
    have c_1 := zq_0 c_1
    exact absurd h1 c_1

set_option maxHeartbeats 1000000 in
set_option maxRecDepth 100000 in
theorem c_X5_strike_x3 {l : Launch} {B kr kp : Nat} {D : va_G} {cI cJ cZ : ClassId} {h : Nat → Nat} {R : va_W} {th : Int32} {n : Nat} {L : Nat → Int64} {kt : Nat → Int32} {km : Nat → Int32} {kl : Nat → Int32} {pt : Nat → Int32} {pm : Nat → Int32} {pl : Nat → Int32} {nu : Nat → Int32} {le : Nat → Int32} {af : Nat → Int32} {run : Bool} {wc : Nat} {lc : Nat} {tr : Nat} {cl : Nat} {tm : Nat} {ms : Nat} {co : Nat} {yn : Nat} {yh : Nat → Int32} {pa : Int32} {mc : Nat → Int32} {key : Int32} {time : Int32}   (h1 : ¬ key < 0 ∧ ¬ 26 ≤ key) (ht1 : ¬ time < 1) (ht2 : time ≤ 5000) (hrun : run = false) : Met l yX5_strike wsX5_strike ({ frames := 1, cells := 0, slots := 0, locals := 21 }) (zPc B kr kp D (zTy cI cJ cZ) (zWM cI cJ cZ h th (n, L) ((zcb kt pt), (zcb km pm), (zcb kl pl)) mc (run, wc, nu, lc, le, af, tr, ms, cl, tm) (co, yn, yh, pa) ++ R) [.ref (h 0), .int key, .int time]) (zQi B D (zWM cI cJ cZ h 3 (n, L) ((zcb kt pt), (zcb km pm), (zcb kl pl)) mc (run, wc, nu, lc, le, af, tr, ms, cl, tm) (co, yn, yh, pa) ++ R) 0) 0 0 (zAb B) := by
  refine Met.ofW (cc := cX5_strike) (maxL := 4) (ret := (some .int)) (by decide) rfl ?_
  intro p e s m args below meth c s₁ B0 hml hv
  obtain ⟨rfl, hP, hD, hK, hE, hB⟩ := hv
  have hx := B0.exec
  have hb := B0.bytes
  have hr := B0.returns
  have hts := atoms_spec (ws := wsX5_strike) B0.pre
  have hown : s.vm.findClass RX5 = some m.cls := findClass_of_methodNamed B0.named
  have hlocks := B0.notSynchronized
  have hA : ∀ q : Nat, s.heap.size ≤ q → zAb B q := fun q hq => Nat.le_trans hB hq
  have hS : va_S (zAb B) s.heap s.heap [] := va_S.rf
  have hgr : s.heap.size ≤ s.heap.size := Nat.le_refl _
  have hl := lv_entry ([.ref (h 0), .int key, .int time]) (n := 4) (Nat.le_of_ble_eq_true rfl)
  rw [lg_entry_eq]
  generalize (lg_sl ([.ref (h 0), .int key, .int time]) ++ List.replicate (4 - (lg_sl ([.ref (h 0), .int key, .int time])).length) Slot.unset).toArray = ls at hl ⊢
  have hl : lv_has ls 4 [(0, .ref (h 0)), (1, .int key), (2, .int time)] := hl
  have hinX5 : ∀ w ∈ wsX50, w ∈ wsX5_strike := fun _ h => List.mem_cons_of_mem _ (List.mem_append_right _ h)
  have hP : va_P D vwCl (zWM cI cJ cZ h th (n, L) ((zcb kt pt), (zcb km pm), (zcb kl pl)) mc (run, wc, nu, lc, le, af, tr, ms, cl, tm) (co, yn, yh, pa) ++ R) s.heap := hP
  have hD : va_D (zAb B) (zWM cI cJ cZ h th (n, L) ((zcb kt pt), (zcb km pm), (zcb kl pl)) mc (run, wc, nu, lc, le, af, tr, ms, cl, tm) (co, yn, yh, pa) ++ R) := hD
  refine lv_aload_n hx hb dX5_strike_0 rfl (lv_at hl 0 rfl) ?_
  refine lv_iconst (v := 0) hx hb dX5_strike_1 (by decide) ?_
  refine va_put (ci := 5) (v := .int 0) (ty := .int) (C := RX5) (T := TX5) (N := 20) hx hb hts hinX5 tyX5 tyX5_ok nmX5 hown hK hP hD hS 0 rfl rfl 0 (by decide) (hts (.fieldLink RX5 43 "TypingTutorModel" "thrown" "I") (List.mem_of_getElem? (i := 1) rfl)) (fun _ h9 => h9) rfl (by decide +kernel) rfl rfl (Nat.le_of_ble_eq_true rfl) dX5_strike_2 (fun H locs hP hD hS => ?_)
  have hP : va_P D vwCl (zWM cI cJ cZ h 0 (n, L) ((zcb kt pt), (zcb km pm), (zcb kl pl)) mc (run, wc, nu, lc, le, af, tr, ms, cl, tm) (co, yn, yh, pa) ++ R) _ := hP
  have hD : va_D (zAb B) (zWM cI cJ cZ h 0 (n, L) ((zcb kt pt), (zcb km pm), (zcb kl pl)) mc (run, wc, nu, lc, le, af, tr, ms, cl, tm) (co, yn, yh, pa) ++ R) := hD
  refine lv_iload_n hx hb dX5_strike_5 rfl (lv_at hl 1 rfl) ?_
  refine zci (zrS (As := [.int key]) (rest := []) ⟨hx, hb, hml, hown, hts⟩ (zS hP hD hK hE hB hS) (c_X5_isKey  ) (va_cwS 1 hts gX5_strike_X5_isKey rfl rfl rfl hds_X5_isKey ⟨Nat.le_of_ble_eq_true rfl, Nat.le_of_ble_eq_true rfl⟩) rfl rfl hl.1 rfl (lv_room (Nat.le_of_ble_eq_true rfl)) dX5_strike_6 ⟨Nat.le_of_ble_eq_true rfl, Nat.le_of_ble_eq_true rfl⟩) hS (fun H locs hP hD hS => ?_)
  have hP : va_P D vwCl (zWM cI cJ cZ h 0 (n, L) ((zcb kt pt), (zcb km pm), (zcb kl pl)) mc (run, wc, nu, lc, le, af, tr, ms, cl, tm) (co, yn, yh, pa) ++ R) _ := hP
  have hD : va_D (zAb B) (zWM cI cJ cZ h 0 (n, L) ((zcb kt pt), (zcb km pm), (zcb kl pl)) mc (run, wc, nu, lc, le, af, tr, ms, cl, tm) (co, yn, yh, pa) ++ R) := hD
  refine lv_if_ne (tgt := 18) hx hb dX5_strike_9 (by decide) (fun c_1 => ?_) (fun c_1 => ?_)
  · skip
    have c_1 := zq_n c_1
    refine lv_iload_n hx hb dX5_strike_18 rfl (lv_at hl 2 rfl) ?_
    refine lv_iconst (v := 1) hx hb dX5_strike_19 (by decide) ?_
    refine lv_icmp_lt (tgt := 30) hx hb dX5_strike_20 (by decide) (fun c_2 => ?_) (fun c_2 => ?_)
    · skip
      exact absurd c_2 ht1
    · skip
      refine lv_iload_n hx hb dX5_strike_23 rfl (lv_at hl 2 rfl) ?_
      refine lv_sipush (v := 5000) hx hb dX5_strike_24 (by decide) ?_
      refine lv_icmp_le (tgt := 36) hx hb dX5_strike_27 (by decide) (fun c_3 => ?_) (fun c_3 => ?_)
      · skip
        refine lv_aload_n hx hb dX5_strike_36 rfl (lv_at hl 0 rfl) ?_
        refine va_get (ci := 5) (v := .int (zb run)) (C := RX5) (T := TX5) (N := 20) hx hb hts hinX5 hown hK hP 0 rfl rfl 7 (by decide) (hts (.fieldLink RX5 106 "TypingTutorModel" "isOpen" "Z") (List.mem_of_getElem? (i := 2) rfl)) (fun _ h9 => h9) rfl dX5_strike_37 ?_
        refine lv_if_ne (tgt := 49) hx hb dX5_strike_40 (by decide) (fun c_4 => ?_) (fun c_4 => ?_)
        · skip
          have c_4 : run = true := zb_n c_4
          exact absurd (c_4.symm.trans hrun) (by decide)
        · skip
          have c_4 : run = false := zb_0 c_4
          refine lv_aload_n hx hb dX5_strike_43 rfl (lv_at hl 0 rfl) ?_
          refine lv_iconst (v := 3) hx hb dX5_strike_44 (by decide) ?_
          refine zci (zrV (As := [.int 3]) (rest := []) ⟨hx, hb, hml, hown, hts⟩ (zV 0 hP hD hK hE hB hS rfl rfl) (c_X5_fail  ) (cwV 1 hts gX5_strike_X5_fail rfl rfl rfl hdv_X5_fail ⟨Nat.le_of_ble_eq_true rfl, Nat.le_of_ble_eq_true rfl⟩) rfl rfl hl.1 rfl (lv_room (Nat.le_of_ble_eq_true rfl)) dX5_strike_45 ⟨Nat.le_of_ble_eq_true rfl, Nat.le_of_ble_eq_true rfl⟩) hS (fun H locs hP hD hS => ?_)
          have hP : va_P D vwCl (zWM cI cJ cZ h 3 (n, L) ((zcb kt pt), (zcb km pm), (zcb kl pl)) mc (run, wc, nu, lc, le, af, tr, ms, cl, tm) (co, yn, yh, pa) ++ R) _ := hP
          have hD : va_D (zAb B) (zWM cI cJ cZ h 3 (n, L) ((zcb kt pt), (zcb km pm), (zcb kl pl)) mc (run, wc, nu, lc, le, af, tr, ms, cl, tm) (co, yn, yh, pa) ++ R) := hD
          exact W.iret (v := 0) hx hb hr (fun t ht hW => ⟨⟨_, (), rfl, rfl, by rw [ht]; exact hP, hD⟩, hS.F ht⟩) hS.2.2 dX5_strike_48
      · skip
        exact absurd ht2 c_3
  · skip
    have c_1 := zq_0 c_1
    exact absurd h1 c_1

set_option maxHeartbeats 1000000 in
set_option maxRecDepth 100000 in
theorem c_X5_openWord {l : Launch} {B kr kp : Nat} {D : va_G} {cI cJ cZ : ClassId} {h : Nat → Nat} {R : va_W} {th : Int32} {n : Nat} {L : Nat → Int64} {kt : Nat → Int32} {km : Nat → Int32} {kl : Nat → Int32} {pt : Nat → Int32} {pm : Nat → Int32} {pl : Nat → Int32} {nu : Nat → Int32} {le : Nat → Int32} {af : Nat → Int32} {run : Bool} {wc : Nat} {lc : Nat} {tr : Nat} {cl : Nat} {tm : Nat} {ms : Nat} {co : Nat} {yn : Nat} {yh : Nat → Int32} {pa : Int32} {mc : Nat → Int32} {k : Nat}   (hk : k < n) (hn : n ≤ 40) (hrun : run = false) : Met l yX5_openWord wsX5_openWord ({ frames := 3, cells := 0, slots := 0, locals := 66 }) (zPc B kr kp D (zTy cI cJ cZ) (zWM cI cJ cZ h th (n, L) ((zcb kt pt), (zcb km pm), (zcb kl pl)) mc (run, wc, nu, lc, le, af, tr, ms, cl, tm) (co, yn, yh, pa) ++ R) [.ref (h 0), .int (nI k)]) (zQi B D (zWM cI cJ cZ h 0 (n, L) ((zcb kt pt), (zcb km pm), (zcb kl pl)) mc (true, (0 + 1), (upd nu 0 (nI k)), (0 + zsz (L k)), (zale le 0 (L k) (zsz (L k))), (zaaf af 0 (zsz (L k))), 0, 0, 0, 0) (co, yn, yh, pa) ++ R) (nI (0 + zsz (L k)))) 0 0 (zAb B) := by
  refine Met.ofW (cc := cX5_openWord) (maxL := 2) (ret := (some .int)) (by decide) rfl ?_
  intro p e s m args below meth c s₁ B0 hml hv
  obtain ⟨rfl, hP, hD, hK, hE, hB⟩ := hv
  have hx := B0.exec
  have hb := B0.bytes
  have hr := B0.returns
  have hts := atoms_spec (ws := wsX5_openWord) B0.pre
  have hown : s.vm.findClass RX5 = some m.cls := findClass_of_methodNamed B0.named
  have hlocks := B0.notSynchronized
  have hA : ∀ q : Nat, s.heap.size ≤ q → zAb B q := fun q hq => Nat.le_trans hB hq
  have hS : va_S (zAb B) s.heap s.heap [] := va_S.rf
  have hgr : s.heap.size ≤ s.heap.size := Nat.le_refl _
  have hl := lv_entry ([.ref (h 0), .int (nI k)]) (n := 2) (Nat.le_of_ble_eq_true rfl)
  rw [lg_entry_eq]
  generalize (lg_sl ([.ref (h 0), .int (nI k)]) ++ List.replicate (2 - (lg_sl ([.ref (h 0), .int (nI k)])).length) Slot.unset).toArray = ls at hl ⊢
  have hl : lv_has ls 2 [(0, .ref (h 0)), (1, .int (nI k))] := hl
  have hinX5 : ∀ w ∈ wsX50, w ∈ wsX5_openWord := fun _ h => List.mem_cons_of_mem _ (List.mem_append_right _ h)
  have hP : va_P D vwCl (zWM cI cJ cZ h th (n, L) ((zcb kt pt), (zcb km pm), (zcb kl pl)) mc (run, wc, nu, lc, le, af, tr, ms, cl, tm) (co, yn, yh, pa) ++ R) s.heap := hP
  have hD : va_D (zAb B) (zWM cI cJ cZ h th (n, L) ((zcb kt pt), (zcb km pm), (zcb kl pl)) mc (run, wc, nu, lc, le, af, tr, ms, cl, tm) (co, yn, yh, pa) ++ R) := hD
  refine lv_aload_n hx hb dX5_openWord_0 rfl (lv_at hl 0 rfl) ?_
  refine lv_iconst (v := 0) hx hb dX5_openWord_1 (by decide) ?_
  refine va_put (ci := 5) (v := .int 0) (ty := .int) (C := RX5) (T := TX5) (N := 20) hx hb hts hinX5 tyX5 tyX5_ok nmX5 hown hK hP hD hS 0 rfl rfl 0 (by decide) (hts (.fieldLink RX5 43 "TypingTutorModel" "thrown" "I") (List.mem_of_getElem? (i := 1) rfl)) (fun _ h9 => h9) rfl (by decide +kernel) rfl rfl (Nat.le_of_ble_eq_true rfl) dX5_openWord_2 (fun H locs hP hD hS => ?_)
  have hP : va_P D vwCl (zWM cI cJ cZ h 0 (n, L) ((zcb kt pt), (zcb km pm), (zcb kl pl)) mc (run, wc, nu, lc, le, af, tr, ms, cl, tm) (co, yn, yh, pa) ++ R) _ := hP
  have hD : va_D (zAb B) (zWM cI cJ cZ h 0 (n, L) ((zcb kt pt), (zcb km pm), (zcb kl pl)) mc (run, wc, nu, lc, le, af, tr, ms, cl, tm) (co, yn, yh, pa) ++ R) := hD
  refine lv_aload_n hx hb dX5_openWord_5 rfl (lv_at hl 0 rfl) ?_
  refine lv_iload_n hx hb dX5_openWord_6 rfl (lv_at hl 1 rfl) ?_
  refine zci (zrV (As := [.int (nI k)]) (rest := []) ⟨hx, hb, hml, hown, hts⟩ (zV 0 hP hD hK hE hB hS rfl rfl) (c_X5_isNumber  ) (cwV 1 hts gX5_openWord_X5_isNumber rfl rfl rfl hdv_X5_isNumber ⟨Nat.le_of_ble_eq_true rfl, Nat.le_of_ble_eq_true rfl⟩) rfl rfl hl.1 rfl (lv_room (Nat.le_of_ble_eq_true rfl)) dX5_openWord_7 ⟨Nat.le_of_ble_eq_true rfl, Nat.le_of_ble_eq_true rfl⟩) hS (fun H locs hP hD hS => ?_)
  have hP : va_P D vwCl (zWM cI cJ cZ h 0 (n, L) ((zcb kt pt), (zcb km pm), (zcb kl pl)) mc (run, wc, nu, lc, le, af, tr, ms, cl, tm) (co, yn, yh, pa) ++ R) _ := hP
  have hD : va_D (zAb B) (zWM cI cJ cZ h 0 (n, L) ((zcb kt pt), (zcb km pm), (zcb kl pl)) mc (run, wc, nu, lc, le, af, tr, ms, cl, tm) (co, yn, yh, pa) ++ R) := hD
  refine lv_if_ne (tgt := 19) hx hb dX5_openWord_10 (by decide) (fun c_1 => ?_) (fun c_1 => ?_)
  · skip
    have c_1 := zq_n c_1
    refine lv_aload_n hx hb dX5_openWord_19 rfl (lv_at hl 0 rfl) ?_
    refine va_get (ci := 5) (v := .int (zb run)) (C := RX5) (T := TX5) (N := 20) hx hb hts hinX5 hown hK hP 0 rfl rfl 7 (by decide) (hts (.fieldLink RX5 106 "TypingTutorModel" "isOpen" "Z") (List.mem_of_getElem? (i := 2) rfl)) (fun _ h9 => h9) rfl dX5_openWord_20 ?_
    refine lv_if_eq (tgt := 32) hx hb dX5_openWord_23 (by decide) (fun c_2 => ?_) (fun c_2 => ?_)
    · skip
      have c_2 : run = false := zb_0 c_2
      refine lv_aload_n hx hb dX5_openWord_32 rfl (lv_at hl 0 rfl) ?_
      refine zcv (zrV (As := []) (rest := []) ⟨hx, hb, hml, hown, hts⟩ (zV 0 hP hD hK hE hB hS rfl rfl) (c_X5_begin  ) (cwV 0 hts gX5_openWord_X5_begin rfl rfl rfl hdv_X5_begin ⟨Nat.le_of_ble_eq_true rfl, Nat.le_of_ble_eq_true rfl⟩) rfl rfl hl.1 rfl (lv_room (Nat.le_of_ble_eq_true rfl)) dX5_openWord_33 ⟨Nat.le_of_ble_eq_true rfl, Nat.le_of_ble_eq_true rfl⟩) hS (fun H locs hP hD hS => ?_)
      have hP : va_P D vwCl (zWM cI cJ cZ h 0 (n, L) ((zcb kt pt), (zcb km pm), (zcb kl pl)) mc (true, 0, nu, 0, le, af, 0, 0, 0, 0) (co, yn, yh, pa) ++ R) _ := hP
      have hD : va_D (zAb B) (zWM cI cJ cZ h 0 (n, L) ((zcb kt pt), (zcb km pm), (zcb kl pl)) mc (true, 0, nu, 0, le, af, 0, 0, 0, 0) (co, yn, yh, pa) ++ R) := hD
      refine lv_aload_n hx hb dX5_openWord_36 rfl (lv_at hl 0 rfl) ?_
      refine lv_iload_n hx hb dX5_openWord_37 rfl (lv_at hl 1 rfl) ?_
      refine zcv (zrV (As := [.int (nI k)]) (rest := []) ⟨hx, hb, hml, hown, hts⟩ (zV 0 hP hD hK hE hB hS rfl rfl) (c_X5_put (k := k) (by omega) (by omega) (by have := zsz_le (L k); omega)) (cwV 1 hts gX5_openWord_X5_put rfl rfl rfl hdv_X5_put ⟨Nat.le_of_ble_eq_true rfl, Nat.le_of_ble_eq_true rfl⟩) rfl rfl hl.1 rfl (lv_room (Nat.le_of_ble_eq_true rfl)) dX5_openWord_38 ⟨Nat.le_of_ble_eq_true rfl, Nat.le_of_ble_eq_true rfl⟩) hS (fun H locs hP hD hS => ?_)
      have hP : va_P D vwCl (zWM cI cJ cZ h 0 (n, L) ((zcb kt pt), (zcb km pm), (zcb kl pl)) mc (true, (0 + 1), (upd nu 0 (nI k)), (0 + zsz (L k)), (zale le 0 (L k) (zsz (L k))), (zaaf af 0 (zsz (L k))), 0, 0, 0, 0) (co, yn, yh, pa) ++ R) _ := hP
      have hD : va_D (zAb B) (zWM cI cJ cZ h 0 (n, L) ((zcb kt pt), (zcb km pm), (zcb kl pl)) mc (true, (0 + 1), (upd nu 0 (nI k)), (0 + zsz (L k)), (zale le 0 (L k) (zsz (L k))), (zaaf af 0 (zsz (L k))), 0, 0, 0, 0) (co, yn, yh, pa) ++ R) := hD
      refine lv_aload_n hx hb dX5_openWord_41 rfl (lv_at hl 0 rfl) ?_
      refine va_get (ci := 5) (v := .int (nI (0 + zsz (L k)))) (C := RX5) (T := TX5) (N := 20) hx hb hts hinX5 hown hK hP 0 rfl rfl 10 (by decide) (hts (.fieldLink RX5 103 "TypingTutorModel" "letters" "I") (List.mem_of_getElem? (i := 3) rfl)) (fun _ h9 => h9) rfl dX5_openWord_42 ?_
      exact W.iret (v := (nI (0 + zsz (L k)))) hx hb hr (fun t ht hW => ⟨⟨_, (), rfl, rfl, by rw [ht]; exact hP, hD⟩, hS.F ht⟩) hS.2.2 dX5_openWord_45
    · skip
      have c_2 : run = true := zb_n c_2
      exact absurd (c_2.symm.trans hrun) (by decide)
  · skip
    have c_1 := zq_0 c_1
    exact absurd ⟨nI_pos (by omega), nI_ge hk (by omega)⟩ c_1

set_option maxHeartbeats 1000000 in
set_option maxRecDepth 100000 in
theorem c_X5_openWord_x1 {l : Launch} {B kr kp : Nat} {D : va_G} {cI cJ cZ : ClassId} {h : Nat → Nat} {R : va_W} {th : Int32} {n : Nat} {L : Nat → Int64} {kt : Nat → Int32} {km : Nat → Int32} {kl : Nat → Int32} {pt : Nat → Int32} {pm : Nat → Int32} {pl : Nat → Int32} {nu : Nat → Int32} {le : Nat → Int32} {af : Nat → Int32} {run : Bool} {wc : Nat} {lc : Nat} {tr : Nat} {cl : Nat} {tm : Nat} {ms : Nat} {co : Nat} {yn : Nat} {yh : Nat → Int32} {pa : Int32} {mc : Nat → Int32} {i : Int32}   (hi : i < 0 ∨ nI n ≤ i) (hn : n ≤ 40) : Met l yX5_openWord wsX5_openWord ({ frames := 1, cells := 0, slots := 0, locals := 21 }) (zPc B kr kp D (zTy cI cJ cZ) (zWM cI cJ cZ h th (n, L) ((zcb kt pt), (zcb km pm), (zcb kl pl)) mc (run, wc, nu, lc, le, af, tr, ms, cl, tm) (co, yn, yh, pa) ++ R) [.ref (h 0), .int i]) (zQi B D (zWM cI cJ cZ h 1 (n, L) ((zcb kt pt), (zcb km pm), (zcb kl pl)) mc (run, wc, nu, lc, le, af, tr, ms, cl, tm) (co, yn, yh, pa) ++ R) 0) 0 0 (zAb B) := by
  refine Met.ofW (cc := cX5_openWord) (maxL := 2) (ret := (some .int)) (by decide) rfl ?_
  intro p e s m args below meth c s₁ B0 hml hv
  obtain ⟨rfl, hP, hD, hK, hE, hB⟩ := hv
  have hx := B0.exec
  have hb := B0.bytes
  have hr := B0.returns
  have hts := atoms_spec (ws := wsX5_openWord) B0.pre
  have hown : s.vm.findClass RX5 = some m.cls := findClass_of_methodNamed B0.named
  have hlocks := B0.notSynchronized
  have hA : ∀ q : Nat, s.heap.size ≤ q → zAb B q := fun q hq => Nat.le_trans hB hq
  have hS : va_S (zAb B) s.heap s.heap [] := va_S.rf
  have hgr : s.heap.size ≤ s.heap.size := Nat.le_refl _
  have hl := lv_entry ([.ref (h 0), .int i]) (n := 2) (Nat.le_of_ble_eq_true rfl)
  rw [lg_entry_eq]
  generalize (lg_sl ([.ref (h 0), .int i]) ++ List.replicate (2 - (lg_sl ([.ref (h 0), .int i])).length) Slot.unset).toArray = ls at hl ⊢
  have hl : lv_has ls 2 [(0, .ref (h 0)), (1, .int i)] := hl
  have hinX5 : ∀ w ∈ wsX50, w ∈ wsX5_openWord := fun _ h => List.mem_cons_of_mem _ (List.mem_append_right _ h)
  have hP : va_P D vwCl (zWM cI cJ cZ h th (n, L) ((zcb kt pt), (zcb km pm), (zcb kl pl)) mc (run, wc, nu, lc, le, af, tr, ms, cl, tm) (co, yn, yh, pa) ++ R) s.heap := hP
  have hD : va_D (zAb B) (zWM cI cJ cZ h th (n, L) ((zcb kt pt), (zcb km pm), (zcb kl pl)) mc (run, wc, nu, lc, le, af, tr, ms, cl, tm) (co, yn, yh, pa) ++ R) := hD
  refine lv_aload_n hx hb dX5_openWord_0 rfl (lv_at hl 0 rfl) ?_
  refine lv_iconst (v := 0) hx hb dX5_openWord_1 (by decide) ?_
  refine va_put (ci := 5) (v := .int 0) (ty := .int) (C := RX5) (T := TX5) (N := 20) hx hb hts hinX5 tyX5 tyX5_ok nmX5 hown hK hP hD hS 0 rfl rfl 0 (by decide) (hts (.fieldLink RX5 43 "TypingTutorModel" "thrown" "I") (List.mem_of_getElem? (i := 1) rfl)) (fun _ h9 => h9) rfl (by decide +kernel) rfl rfl (Nat.le_of_ble_eq_true rfl) dX5_openWord_2 (fun H locs hP hD hS => ?_)
  have hP : va_P D vwCl (zWM cI cJ cZ h 0 (n, L) ((zcb kt pt), (zcb km pm), (zcb kl pl)) mc (run, wc, nu, lc, le, af, tr, ms, cl, tm) (co, yn, yh, pa) ++ R) _ := hP
  have hD : va_D (zAb B) (zWM cI cJ cZ h 0 (n, L) ((zcb kt pt), (zcb km pm), (zcb kl pl)) mc (run, wc, nu, lc, le, af, tr, ms, cl, tm) (co, yn, yh, pa) ++ R) := hD
  refine lv_aload_n hx hb dX5_openWord_5 rfl (lv_at hl 0 rfl) ?_
  refine lv_iload_n hx hb dX5_openWord_6 rfl (lv_at hl 1 rfl) ?_
  refine zci (zrV (As := [.int i]) (rest := []) ⟨hx, hb, hml, hown, hts⟩ (zV 0 hP hD hK hE hB hS rfl rfl) (c_X5_isNumber  ) (cwV 1 hts gX5_openWord_X5_isNumber rfl rfl rfl hdv_X5_isNumber ⟨Nat.le_of_ble_eq_true rfl, Nat.le_of_ble_eq_true rfl⟩) rfl rfl hl.1 rfl (lv_room (Nat.le_of_ble_eq_true rfl)) dX5_openWord_7 ⟨Nat.le_of_ble_eq_true rfl, Nat.le_of_ble_eq_true rfl⟩) hS (fun H locs hP hD hS => ?_)
  have hP : va_P D vwCl (zWM cI cJ cZ h 0 (n, L) ((zcb kt pt), (zcb km pm), (zcb kl pl)) mc (run, wc, nu, lc, le, af, tr, ms, cl, tm) (co, yn, yh, pa) ++ R) _ := hP
  have hD : va_D (zAb B) (zWM cI cJ cZ h 0 (n, L) ((zcb kt pt), (zcb km pm), (zcb kl pl)) mc (run, wc, nu, lc, le, af, tr, ms, cl, tm) (co, yn, yh, pa) ++ R) := hD
  refine lv_if_ne (tgt := 19) hx hb dX5_openWord_10 (by decide) (fun c_1 => ?_) (fun c_1 => ?_)
  · skip
    have c_1 := zq_n c_1
    exact hi.elim (fun q => absurd q c_1.1) (fun q => absurd q c_1.2)
  · skip
    have c_1 := zq_0 c_1
    refine lv_aload_n hx hb dX5_openWord_13 rfl (lv_at hl 0 rfl) ?_
    refine lv_iconst (v := 1) hx hb dX5_openWord_14 (by decide) ?_
    refine zci (zrV (As := [.int 1]) (rest := []) ⟨hx, hb, hml, hown, hts⟩ (zV 0 hP hD hK hE hB hS rfl rfl) (c_X5_fail  ) (cwV 1 hts gX5_openWord_X5_fail rfl rfl rfl hdv_X5_fail ⟨Nat.le_of_ble_eq_true rfl, Nat.le_of_ble_eq_true rfl⟩) rfl rfl hl.1 rfl (lv_room (Nat.le_of_ble_eq_true rfl)) dX5_openWord_15 ⟨Nat.le_of_ble_eq_true rfl, Nat.le_of_ble_eq_true rfl⟩) hS (fun H locs hP hD hS => ?_)
    have hP : va_P D vwCl (zWM cI cJ cZ h 1 (n, L) ((zcb kt pt), (zcb km pm), (zcb kl pl)) mc (run, wc, nu, lc, le, af, tr, ms, cl, tm) (co, yn, yh, pa) ++ R) _ := hP
    have hD : va_D (zAb B) (zWM cI cJ cZ h 1 (n, L) ((zcb kt pt), (zcb km pm), (zcb kl pl)) mc (run, wc, nu, lc, le, af, tr, ms, cl, tm) (co, yn, yh, pa) ++ R) := hD
    exact W.iret (v := 0) hx hb hr (fun t ht hW => ⟨⟨_, (), rfl, rfl, by rw [ht]; exact hP, hD⟩, hS.F ht⟩) hS.2.2 dX5_openWord_18

set_option maxHeartbeats 1000000 in
set_option maxRecDepth 100000 in
theorem c_X5_openWord_x2 {l : Launch} {B kr kp : Nat} {D : va_G} {cI cJ cZ : ClassId} {h : Nat → Nat} {R : va_W} {th : Int32} {n : Nat} {L : Nat → Int64} {kt : Nat → Int32} {km : Nat → Int32} {kl : Nat → Int32} {pt : Nat → Int32} {pm : Nat → Int32} {pl : Nat → Int32} {nu : Nat → Int32} {le : Nat → Int32} {af : Nat → Int32} {run : Bool} {wc : Nat} {lc : Nat} {tr : Nat} {cl : Nat} {tm : Nat} {ms : Nat} {co : Nat} {yn : Nat} {yh : Nat → Int32} {pa : Int32} {mc : Nat → Int32} {k : Nat}   (hk : k < n) (hn : n ≤ 40) (hrun : run = true) : Met l yX5_openWord wsX5_openWord ({ frames := 1, cells := 0, slots := 0, locals := 21 }) (zPc B kr kp D (zTy cI cJ cZ) (zWM cI cJ cZ h th (n, L) ((zcb kt pt), (zcb km pm), (zcb kl pl)) mc (run, wc, nu, lc, le, af, tr, ms, cl, tm) (co, yn, yh, pa) ++ R) [.ref (h 0), .int (nI k)]) (zQi B D (zWM cI cJ cZ h 2 (n, L) ((zcb kt pt), (zcb km pm), (zcb kl pl)) mc (run, wc, nu, lc, le, af, tr, ms, cl, tm) (co, yn, yh, pa) ++ R) 0) 0 0 (zAb B) := by
  refine Met.ofW (cc := cX5_openWord) (maxL := 2) (ret := (some .int)) (by decide) rfl ?_
  intro p e s m args below meth c s₁ B0 hml hv
  obtain ⟨rfl, hP, hD, hK, hE, hB⟩ := hv
  have hx := B0.exec
  have hb := B0.bytes
  have hr := B0.returns
  have hts := atoms_spec (ws := wsX5_openWord) B0.pre
  have hown : s.vm.findClass RX5 = some m.cls := findClass_of_methodNamed B0.named
  have hlocks := B0.notSynchronized
  have hA : ∀ q : Nat, s.heap.size ≤ q → zAb B q := fun q hq => Nat.le_trans hB hq
  have hS : va_S (zAb B) s.heap s.heap [] := va_S.rf
  have hgr : s.heap.size ≤ s.heap.size := Nat.le_refl _
  have hl := lv_entry ([.ref (h 0), .int (nI k)]) (n := 2) (Nat.le_of_ble_eq_true rfl)
  rw [lg_entry_eq]
  generalize (lg_sl ([.ref (h 0), .int (nI k)]) ++ List.replicate (2 - (lg_sl ([.ref (h 0), .int (nI k)])).length) Slot.unset).toArray = ls at hl ⊢
  have hl : lv_has ls 2 [(0, .ref (h 0)), (1, .int (nI k))] := hl
  have hinX5 : ∀ w ∈ wsX50, w ∈ wsX5_openWord := fun _ h => List.mem_cons_of_mem _ (List.mem_append_right _ h)
  have hP : va_P D vwCl (zWM cI cJ cZ h th (n, L) ((zcb kt pt), (zcb km pm), (zcb kl pl)) mc (run, wc, nu, lc, le, af, tr, ms, cl, tm) (co, yn, yh, pa) ++ R) s.heap := hP
  have hD : va_D (zAb B) (zWM cI cJ cZ h th (n, L) ((zcb kt pt), (zcb km pm), (zcb kl pl)) mc (run, wc, nu, lc, le, af, tr, ms, cl, tm) (co, yn, yh, pa) ++ R) := hD
  refine lv_aload_n hx hb dX5_openWord_0 rfl (lv_at hl 0 rfl) ?_
  refine lv_iconst (v := 0) hx hb dX5_openWord_1 (by decide) ?_
  refine va_put (ci := 5) (v := .int 0) (ty := .int) (C := RX5) (T := TX5) (N := 20) hx hb hts hinX5 tyX5 tyX5_ok nmX5 hown hK hP hD hS 0 rfl rfl 0 (by decide) (hts (.fieldLink RX5 43 "TypingTutorModel" "thrown" "I") (List.mem_of_getElem? (i := 1) rfl)) (fun _ h9 => h9) rfl (by decide +kernel) rfl rfl (Nat.le_of_ble_eq_true rfl) dX5_openWord_2 (fun H locs hP hD hS => ?_)
  have hP : va_P D vwCl (zWM cI cJ cZ h 0 (n, L) ((zcb kt pt), (zcb km pm), (zcb kl pl)) mc (run, wc, nu, lc, le, af, tr, ms, cl, tm) (co, yn, yh, pa) ++ R) _ := hP
  have hD : va_D (zAb B) (zWM cI cJ cZ h 0 (n, L) ((zcb kt pt), (zcb km pm), (zcb kl pl)) mc (run, wc, nu, lc, le, af, tr, ms, cl, tm) (co, yn, yh, pa) ++ R) := hD
  refine lv_aload_n hx hb dX5_openWord_5 rfl (lv_at hl 0 rfl) ?_
  refine lv_iload_n hx hb dX5_openWord_6 rfl (lv_at hl 1 rfl) ?_
  refine zci (zrV (As := [.int (nI k)]) (rest := []) ⟨hx, hb, hml, hown, hts⟩ (zV 0 hP hD hK hE hB hS rfl rfl) (c_X5_isNumber  ) (cwV 1 hts gX5_openWord_X5_isNumber rfl rfl rfl hdv_X5_isNumber ⟨Nat.le_of_ble_eq_true rfl, Nat.le_of_ble_eq_true rfl⟩) rfl rfl hl.1 rfl (lv_room (Nat.le_of_ble_eq_true rfl)) dX5_openWord_7 ⟨Nat.le_of_ble_eq_true rfl, Nat.le_of_ble_eq_true rfl⟩) hS (fun H locs hP hD hS => ?_)
  have hP : va_P D vwCl (zWM cI cJ cZ h 0 (n, L) ((zcb kt pt), (zcb km pm), (zcb kl pl)) mc (run, wc, nu, lc, le, af, tr, ms, cl, tm) (co, yn, yh, pa) ++ R) _ := hP
  have hD : va_D (zAb B) (zWM cI cJ cZ h 0 (n, L) ((zcb kt pt), (zcb km pm), (zcb kl pl)) mc (run, wc, nu, lc, le, af, tr, ms, cl, tm) (co, yn, yh, pa) ++ R) := hD
  refine lv_if_ne (tgt := 19) hx hb dX5_openWord_10 (by decide) (fun c_1 => ?_) (fun c_1 => ?_)
  · skip
    have c_1 := zq_n c_1
    refine lv_aload_n hx hb dX5_openWord_19 rfl (lv_at hl 0 rfl) ?_
    refine va_get (ci := 5) (v := .int (zb run)) (C := RX5) (T := TX5) (N := 20) hx hb hts hinX5 hown hK hP 0 rfl rfl 7 (by decide) (hts (.fieldLink RX5 106 "TypingTutorModel" "isOpen" "Z") (List.mem_of_getElem? (i := 2) rfl)) (fun _ h9 => h9) rfl dX5_openWord_20 ?_
    refine lv_if_eq (tgt := 32) hx hb dX5_openWord_23 (by decide) (fun c_2 => ?_) (fun c_2 => ?_)
    · skip
      have c_2 : run = false := zb_0 c_2
      exact absurd (c_2.symm.trans hrun) (by decide)
    · skip
      have c_2 : run = true := zb_n c_2
      refine lv_aload_n hx hb dX5_openWord_26 rfl (lv_at hl 0 rfl) ?_
      refine lv_iconst (v := 2) hx hb dX5_openWord_27 (by decide) ?_
      refine zci (zrV (As := [.int 2]) (rest := []) ⟨hx, hb, hml, hown, hts⟩ (zV 0 hP hD hK hE hB hS rfl rfl) (c_X5_fail  ) (cwV 1 hts gX5_openWord_X5_fail rfl rfl rfl hdv_X5_fail ⟨Nat.le_of_ble_eq_true rfl, Nat.le_of_ble_eq_true rfl⟩) rfl rfl hl.1 rfl (lv_room (Nat.le_of_ble_eq_true rfl)) dX5_openWord_28 ⟨Nat.le_of_ble_eq_true rfl, Nat.le_of_ble_eq_true rfl⟩) hS (fun H locs hP hD hS => ?_)
      have hP : va_P D vwCl (zWM cI cJ cZ h 2 (n, L) ((zcb kt pt), (zcb km pm), (zcb kl pl)) mc (run, wc, nu, lc, le, af, tr, ms, cl, tm) (co, yn, yh, pa) ++ R) _ := hP
      have hD : va_D (zAb B) (zWM cI cJ cZ h 2 (n, L) ((zcb kt pt), (zcb km pm), (zcb kl pl)) mc (run, wc, nu, lc, le, af, tr, ms, cl, tm) (co, yn, yh, pa) ++ R) := hD
      exact W.iret (v := 0) hx hb hr (fun t ht hW => ⟨⟨_, (), rfl, rfl, by rw [ht]; exact hP, hD⟩, hS.F ht⟩) hS.2.2 dX5_openWord_31
  · skip
    have c_1 := zq_0 c_1
    exact absurd ⟨nI_pos (by omega), nI_ge hk (by omega)⟩ c_1
