set_option maxHeartbeats 1000000 in
set_option maxRecDepth 100000 in
theorem c_X4_digestOfWords {l : Launch} {B kr kp : Nat} {D : va_G} {cI cJ cZ : ClassId} {h : Nat → Nat} {R : va_W} {n : Nat} {L : Nat → Int64} {kt : Nat → Int32} {km : Nat → Int32} {kl : Nat → Int32} {pt : Nat → Int32} {pm : Nat → Int32} {pl : Nat → Int32} {nu : Nat → Int32} {le : Nat → Int32} {ow : Nat → Int32} {fo : Nat → Int32} {run : Bool} {wc : Nat} {lc : Nat} {tr : Nat} {cl : Nat} {tm : Nat} {ms : Nat} {yl : Nat → Int32} {yc : Nat → Int32} {yt : Nat → Int32} {co : Nat} {pa : Int32} {su : Nat} {sc : Nat} {mc : Nat → Int32} {d : Int64}   (hn : n ≤ 40) : Met l yX4_digestOfWords wsX4_digestOfWords ({ frames := 1, cells := 0, slots := 0, locals := 23 }) (zPc B kr kp D (zTy cI cJ cZ) (zWT cI cJ h (n, L) (kt, km, kl) (pt, pm, pl) (nu, le, ow, fo, run, wc, lc, tr, cl, tm, ms) (yl, yc, yt, co, pa, su, sc) mc ++ R) [.ref (h 0), .long d]) (zQl B D (zWT cI cJ h (n, L) (kt, km, kl) (pt, pm, pl) (nu, le, ow, fo, run, wc, lc, tr, cl, tm, ms) (yl, yc, yt, co, pa, su, sc) mc ++ R) (zdW L (zmx d (nI n).toInt64) n)) 0 0 (zAb B) := by
  refine Met.ofW (cc := cX4_digestOfWords) (maxL := 6) (ret := (some .long)) (by decide) rfl ?_
  intro p e s m args below meth c s₁ B0 hml hv
  obtain ⟨rfl, hP, hD, hK, hE, hB⟩ := hv
  have hx := B0.exec
  have hb := B0.bytes
  have hr := B0.returns
  have hts := atoms_spec (ws := wsX4_digestOfWords) B0.pre
  have hown : s.vm.findClass RX4 = some m.cls := findClass_of_methodNamed B0.named
  have hlocks := B0.notSynchronized
  have hA : ∀ q : Nat, s.heap.size ≤ q → zAb B q := fun q hq => Nat.le_trans hB hq
  have hS : va_S (zAb B) s.heap s.heap [] := va_S.rf
  have hgr : s.heap.size ≤ s.heap.size := Nat.le_refl _
  have hl := lv_entry ([.ref (h 0), .long d]) (n := 6) (Nat.le_of_ble_eq_true rfl)
  rw [lg_entry_eq]
  generalize (lg_sl ([.ref (h 0), .long d]) ++ List.replicate (6 - (lg_sl ([.ref (h 0), .long d])).length) Slot.unset).toArray = ls at hl ⊢
  have hl : lv_has ls 6 [(0, .ref (h 0)), (1, .long d)] := hl
  have hinX4 : ∀ w ∈ wsX40, w ∈ wsX4_digestOfWords := fun _ h => List.mem_cons_of_mem _ (List.mem_append_left _ (List.mem_append_right _ h))
  have hP : va_P D vwCl (zWT cI cJ h (n, L) (kt, km, kl) (pt, pm, pl) (nu, le, ow, fo, run, wc, lc, tr, cl, tm, ms) (yl, yc, yt, co, pa, su, sc) mc ++ R) s.heap := hP
  have hD : va_D (zAb B) (zWT cI cJ h (n, L) (kt, km, kl) (pt, pm, pl) (nu, le, ow, fo, run, wc, lc, tr, cl, tm, ms) (yl, yc, yt, co, pa, su, sc) mc ++ R) := hD
  refine lv_lload_n hx hb dX4_digestOfWords_0 rfl (lv_at hl 1 rfl) ?_
  refine lv_aload_n hx hb dX4_digestOfWords_1 rfl (lv_at hl 0 rfl) ?_
  refine va_get (ci := 4) (v := .ref (h 1)) (C := RX4) (T := TX4) (N := 6) hx hb hts hinX4 hown hK hP 0 rfl rfl 0 (by decide) (hts (.fieldLink RX4 12 "TypingTutor" "list" "LTypingTutor$WordList;") (List.mem_of_getElem? (i := 1) rfl)) (fun _ h9 => h9) rfl dX4_digestOfWords_2 ?_
  refine zci (zrV (As := []) (rest := [.long d]) ⟨hx, hb, hml, hown, hts⟩ (zV 1 hP hD hK hE hB hS rfl rfl) (c_X3_size  ) (cwV 0 hts gX4_digestOfWords_X3_size rfl rfl rfl hdv_X3_size ⟨Nat.le_of_ble_eq_true rfl, Nat.le_of_ble_eq_true rfl⟩) rfl rfl hl.1 rfl (lv_room (Nat.le_of_ble_eq_true rfl)) dX4_digestOfWords_5 ⟨Nat.le_of_ble_eq_true rfl, Nat.le_of_ble_eq_true rfl⟩) hS (fun H locs hP hD hS => ?_)
  have hP : va_P D vwCl (zWT cI cJ h (n, L) (kt, km, kl) (pt, pm, pl) (nu, le, ow, fo, run, wc, lc, tr, cl, tm, ms) (yl, yc, yt, co, pa, su, sc) mc ++ R) _ := hP
  have hD : va_D (zAb B) (zWT cI cJ h (n, L) (kt, km, kl) (pt, pm, pl) (nu, le, ow, fo, run, wc, lc, tr, cl, tm, ms) (yl, yc, yt, co, pa, su, sc) mc ++ R) := hD
  refine lv_i2l (v := ((nI n)).toInt64) hx hb dX4_digestOfWords_8 rfl ?_
  refine zcl (zrS (As := [.long d, .long (((nI n)).toInt64)]) (rest := []) ⟨hx, hb, hml, hown, hts⟩ (zS hP hD hK hE hB hS) (c_X4_mixed  ) (va_cwS 2 hts gX4_digestOfWords_X4_mixed rfl rfl rfl hds_X4_mixed ⟨Nat.le_of_ble_eq_true rfl, Nat.le_of_ble_eq_true rfl⟩) rfl rfl hl.1 rfl (lv_room (Nat.le_of_ble_eq_true rfl)) dX4_digestOfWords_9 ⟨Nat.le_of_ble_eq_true rfl, Nat.le_of_ble_eq_true rfl⟩) hS (fun H locs hP hD hS => ?_)
  have hP : va_P D vwCl (zWT cI cJ h (n, L) (kt, km, kl) (pt, pm, pl) (nu, le, ow, fo, run, wc, lc, tr, cl, tm, ms) (yl, yc, yt, co, pa, su, sc) mc ++ R) _ := hP
  have hD : va_D (zAb B) (zWT cI cJ h (n, L) (kt, km, kl) (pt, pm, pl) (nu, le, ow, fo, run, wc, lc, tr, cl, tm, ms) (yl, yc, yt, co, pa, su, sc) mc ++ R) := hD
  refine lv_lstore_n (lv' := [(3, .long (zmx d (((nI n)).toInt64))), (0, .ref (h 0)), (1, .long d)]) hx hb dX4_digestOfWords_12 rfl hl (by decide) rfl (fun ls hl => ?_)
  refine lv_iconst (v := 0) hx hb dX4_digestOfWords_13 (by decide) ?_
  refine lv_istore (lv' := [(5, .int 0), (3, .long (zmx d (((nI n)).toInt64))), (0, .ref (h 0)), (1, .long d)]) hx hb dX4_digestOfWords_14 hl (by decide) rfl (fun ls hl => ?_)
  refine zloop (σ := (Nat) × (Int64)) (nL := 6) (fun x9 => (zWT cI cJ h (n, L) (kt, km, kl) (pt, pm, pl) (nu, le, ow, fo, run, wc, lc, tr, cl, tm, ms) (yl, yc, yt, co, pa, su, sc) mc ++ R)) (fun x9 => [(5, .int (nI x9.1)), (3, .long x9.2), (0, .ref (h 0)), (1, .long d)]) (fun x9 => []) (fun x9 => (x9.1 ≤ n) ∧ x9.2 = zdW L (zmx d (nI n).toInt64) x9.1) (fun x9 => n - x9.1) ?_ (0, zmx d (nI n).toInt64) (⟨by omega, rfl⟩) _ _ _ hP hD hS (lv_sub hl [0, 1, 2, 3] rfl)
  rintro ⟨j, z⟩ hI ih H locs ls hP hD hS hl
  try dsimp only at hI ih hP hD hS hl ⊢
  obtain ⟨hI, rfl⟩ := hI
  refine lv_iload hx hb dX4_digestOfWords_16 (lv_at hl 0 rfl) ?_
  refine lv_aload_n hx hb dX4_digestOfWords_18 rfl (lv_at hl 2 rfl) ?_
  refine va_get (ci := 4) (v := .ref (h 1)) (C := RX4) (T := TX4) (N := 6) hx hb hts hinX4 hown hK hP 0 rfl rfl 0 (by decide) (hts (.fieldLink RX4 12 "TypingTutor" "list" "LTypingTutor$WordList;") (List.mem_of_getElem? (i := 1) rfl)) (fun _ h9 => h9) rfl dX4_digestOfWords_19 ?_
  refine zci (zrV (As := []) (rest := [.int (nI j)]) ⟨hx, hb, hml, hown, hts⟩ (zV 1 hP hD hK hE hB hS rfl rfl) (c_X3_size  ) (cwV 0 hts gX4_digestOfWords_X3_size rfl rfl rfl hdv_X3_size ⟨Nat.le_of_ble_eq_true rfl, Nat.le_of_ble_eq_true rfl⟩) rfl rfl hl.1 rfl (lv_room (Nat.le_of_ble_eq_true rfl)) dX4_digestOfWords_22 ⟨Nat.le_of_ble_eq_true rfl, Nat.le_of_ble_eq_true rfl⟩) hS (fun H locs hP hD hS => ?_)
  have hP : va_P D vwCl (zWT cI cJ h (n, L) (kt, km, kl) (pt, pm, pl) (nu, le, ow, fo, run, wc, lc, tr, cl, tm, ms) (yl, yc, yt, co, pa, su, sc) mc ++ R) _ := hP
  have hD : va_D (zAb B) (zWT cI cJ h (n, L) (kt, km, kl) (pt, pm, pl) (nu, le, ow, fo, run, wc, lc, tr, cl, tm, ms) (yl, yc, yt, co, pa, su, sc) mc ++ R) := hD
  refine lv_icmp_ge (tgt := 48) hx hb dX4_digestOfWords_25 (by decide) (fun c_1 => ?_) (fun c_1 => ?_)
  · skip
    have c_1 : n ≤ j := (nI_leI (a := n) (b := j) (by omega) (by omega)).mp c_1
    obtain rfl : n = j := by omega
    refine lv_lload_n hx hb dX4_digestOfWords_48 rfl (lv_at hl 1 rfl) ?_
    exact W.lret (v := (zdW L (zmx d (nI n).toInt64) n)) hx hb hr (fun t ht hW => ⟨⟨_, (), rfl, rfl, by rw [ht]; exact hP, hD⟩, hS.F ht⟩) hS.2.2 dX4_digestOfWords_49
  · skip
    have c_1 : ¬ n ≤ j := fun hh => c_1 ((nI_leI (a := n) (b := j) (by omega) (by omega)).mpr hh)
    refine lv_lload_n hx hb dX4_digestOfWords_28 rfl (lv_at hl 1 rfl) ?_
    refine lv_aload_n hx hb dX4_digestOfWords_29 rfl (lv_at hl 2 rfl) ?_
    refine va_get (ci := 4) (v := .ref (h 1)) (C := RX4) (T := TX4) (N := 6) hx hb hts hinX4 hown hK hP 0 rfl rfl 0 (by decide) (hts (.fieldLink RX4 12 "TypingTutor" "list" "LTypingTutor$WordList;") (List.mem_of_getElem? (i := 1) rfl)) (fun _ h9 => h9) rfl dX4_digestOfWords_30 ?_
    refine lv_iload hx hb dX4_digestOfWords_33 (lv_at hl 0 rfl) ?_
    refine zcl (zrV (As := [.int (nI j)]) (rest := [.long (zdW L (zmx d (nI n).toInt64) j)]) ⟨hx, hb, hml, hown, hts⟩ (zV 1 hP hD hK hE hB hS rfl rfl) (c_X3_wordAt (k := j) (by omega)) (cwV 1 hts gX4_digestOfWords_X3_wordAt rfl rfl rfl hdv_X3_wordAt ⟨Nat.le_of_ble_eq_true rfl, Nat.le_of_ble_eq_true rfl⟩) rfl rfl hl.1 rfl (lv_room (Nat.le_of_ble_eq_true rfl)) dX4_digestOfWords_35 ⟨Nat.le_of_ble_eq_true rfl, Nat.le_of_ble_eq_true rfl⟩) hS (fun H locs hP hD hS => ?_)
    have hP : va_P D vwCl (zWT cI cJ h (n, L) (kt, km, kl) (pt, pm, pl) (nu, le, ow, fo, run, wc, lc, tr, cl, tm, ms) (yl, yc, yt, co, pa, su, sc) mc ++ R) _ := hP
    have hD : va_D (zAb B) (zWT cI cJ h (n, L) (kt, km, kl) (pt, pm, pl) (nu, le, ow, fo, run, wc, lc, tr, cl, tm, ms) (yl, yc, yt, co, pa, su, sc) mc ++ R) := hD
    refine zcl (zrS (As := [.long (zdW L (zmx d (nI n).toInt64) j), .long (L j)]) (rest := []) ⟨hx, hb, hml, hown, hts⟩ (zS hP hD hK hE hB hS) (c_X4_mixed  ) (va_cwS 2 hts gX4_digestOfWords_X4_mixed rfl rfl rfl hds_X4_mixed ⟨Nat.le_of_ble_eq_true rfl, Nat.le_of_ble_eq_true rfl⟩) rfl rfl hl.1 rfl (lv_room (Nat.le_of_ble_eq_true rfl)) dX4_digestOfWords_38 ⟨Nat.le_of_ble_eq_true rfl, Nat.le_of_ble_eq_true rfl⟩) hS (fun H locs hP hD hS => ?_)
    have hP : va_P D vwCl (zWT cI cJ h (n, L) (kt, km, kl) (pt, pm, pl) (nu, le, ow, fo, run, wc, lc, tr, cl, tm, ms) (yl, yc, yt, co, pa, su, sc) mc ++ R) _ := hP
    have hD : va_D (zAb B) (zWT cI cJ h (n, L) (kt, km, kl) (pt, pm, pl) (nu, le, ow, fo, run, wc, lc, tr, cl, tm, ms) (yl, yc, yt, co, pa, su, sc) mc ++ R) := hD
    refine lv_lstore_n (lv' := [(3, .long (zmx (zdW L (zmx d (nI n).toInt64) j) (L j))), (5, .int (nI j)), (0, .ref (h 0)), (1, .long d)]) hx hb dX4_digestOfWords_41 rfl hl (by decide) rfl (fun ls hl => ?_)
    refine lv_iinc (v := (nI (j + 1))) (lv' := [(5, .int (nI (j + 1))), (3, .long (zmx (zdW L (zmx d (nI n).toInt64) j) (L j))), (0, .ref (h 0)), (1, .long d)]) hx hb dX4_digestOfWords_42 hl (k := 1) rfl (nI_add j 1) (by decide) rfl (fun ls hl => ?_)
    refine lv_goto (tgt := 16) hx hb dX4_digestOfWords_45 (by decide) ?_
    exact ih (j + 1, (zmx (zdW L (zmx d (nI n).toInt64) j) (L j))) (⟨by omega, rfl⟩) (by omega) _ _ _ hP hD hS (lv_sub hl [0, 1, 2, 3] rfl)

set_option maxHeartbeats 1000000 in
set_option maxRecDepth 100000 in
theorem c_X4_digestOfRecord_k {l : Launch} {B kr kp : Nat} {D : va_G} {cI cJ cZ : ClassId} {h : Nat → Nat} {R : va_W} {n : Nat} {L : Nat → Int64} {kt : Nat → Int32} {km : Nat → Int32} {kl : Nat → Int32} {pt : Nat → Int32} {pm : Nat → Int32} {pl : Nat → Int32} {nu : Nat → Int32} {le : Nat → Int32} {ow : Nat → Int32} {fo : Nat → Int32} {run : Bool} {wc : Nat} {lc : Nat} {tr : Nat} {cl : Nat} {tm : Nat} {ms : Nat} {yl : Nat → Int32} {yc : Nat → Int32} {yt : Nat → Int32} {co : Nat} {pa : Int32} {su : Nat} {sc : Nat} {mc : Nat → Int32} {d : Int64} {k : Nat}   (hk : k < 26) : Met l yX4_digestOfRecord wsX4_digestOfRecord ({ frames := 2, cells := 0, slots := 0, locals := 43 }) (zPc B kr kp D (zTy cI cJ cZ) (zWT cI cJ h (n, L) (kt, km, kl) (pt, pm, pl) (nu, le, ow, fo, run, wc, lc, tr, cl, tm, ms) (yl, yc, yt, co, pa, su, sc) mc ++ R) [.long d, .ref (h 3), .int (nI k)]) (zQl B D (zWT cI cJ h (n, L) (kt, km, kl) (pt, pm, pl) (nu, le, ow, fo, run, wc, lc, tr, cl, tm, ms) (yl, yc, yt, co, pa, su, sc) mc ++ R) (zdr d (kt k) (km k) (kl k))) 0 0 (zAb B) := by
  refine Met.ofW (cc := cX4_digestOfRecord) (maxL := 7) (ret := (some .long)) (by decide) rfl ?_
  intro p e s m args below meth c s₁ B0 hml hv
  obtain ⟨rfl, hP, hD, hK, hE, hB⟩ := hv
  have hx := B0.exec
  have hb := B0.bytes
  have hr := B0.returns
  have hts := atoms_spec (ws := wsX4_digestOfRecord) B0.pre
  have hown : s.vm.findClass RX4 = some m.cls := findClass_of_methodNamed B0.named
  have hlocks := B0.notSynchronized
  have hA : ∀ q : Nat, s.heap.size ≤ q → zAb B q := fun q hq => Nat.le_trans hB hq
  have hS : va_S (zAb B) s.heap s.heap [] := va_S.rf
  have hgr : s.heap.size ≤ s.heap.size := Nat.le_refl _
  have hl := lv_entry ([.long d, .ref (h 3), .int (nI k)]) (n := 7) (Nat.le_of_ble_eq_true rfl)
  rw [lg_entry_eq]
  generalize (lg_sl ([.long d, .ref (h 3), .int (nI k)]) ++ List.replicate (7 - (lg_sl ([.long d, .ref (h 3), .int (nI k)])).length) Slot.unset).toArray = ls at hl ⊢
  have hl : lv_has ls 7 [(0, .long d), (2, .ref (h 3)), (3, .int (nI k))] := hl
  have hP : va_P D vwCl (zWT cI cJ h (n, L) (kt, km, kl) (pt, pm, pl) (nu, le, ow, fo, run, wc, lc, tr, cl, tm, ms) (yl, yc, yt, co, pa, su, sc) mc ++ R) s.heap := hP
  have hD : va_D (zAb B) (zWT cI cJ h (n, L) (kt, km, kl) (pt, pm, pl) (nu, le, ow, fo, run, wc, lc, tr, cl, tm, ms) (yl, yc, yt, co, pa, su, sc) mc ++ R) := hD
  refine lv_lload_n hx hb dX4_digestOfRecord_0 rfl (lv_at hl 0 rfl) ?_
  refine lv_lstore (lv' := [(4, .long d), (0, .long d), (2, .ref (h 3)), (3, .int (nI k))]) hx hb dX4_digestOfRecord_1 hl (by decide) rfl (fun ls hl => ?_)
  refine lv_iconst (v := 0) hx hb dX4_digestOfRecord_3 (by decide) ?_
  refine lv_istore (lv' := [(6, .int 0), (4, .long d), (0, .long d), (2, .ref (h 3)), (3, .int (nI k))]) hx hb dX4_digestOfRecord_4 hl (by decide) rfl (fun ls hl => ?_)
  refine lv_iload hx hb dX4_digestOfRecord_6 (lv_at hl 0 rfl) ?_
  refine lv_iconst (v := 2) hx hb dX4_digestOfRecord_8 (by decide) ?_
  refine lv_icmp_gt (tgt := 33) hx hb dX4_digestOfRecord_9 (by decide) (fun c_1 => ?_) (fun c_1 => ?_)
  · skip
    exfalso; first | omega | (revert c_1; decide) | (exact absurd rfl c_1) | simp_all
  · skip
    refine lv_lload hx hb dX4_digestOfRecord_12 (lv_at hl 1 rfl) ?_
    refine lv_aload_n hx hb dX4_digestOfRecord_14 rfl (lv_at hl 3 rfl) ?_
    refine lv_iload_n hx hb dX4_digestOfRecord_15 rfl (lv_at hl 4 rfl) ?_
    refine lv_iload hx hb dX4_digestOfRecord_16 (lv_at hl 0 rfl) ?_
    refine zci (zrV (As := [.int (nI k), .int 0]) (rest := [.long d]) ⟨hx, hb, hml, hown, hts⟩ (zV 3 hP hD hK hE hB hS rfl rfl) (c_X1_tell_k0 (k := k) (by omega)) (cwV 2 hts gX4_digestOfRecord_X1_tell rfl rfl rfl hdv_X1_tell ⟨Nat.le_of_ble_eq_true rfl, Nat.le_of_ble_eq_true rfl⟩) rfl rfl hl.1 rfl (lv_room (Nat.le_of_ble_eq_true rfl)) dX4_digestOfRecord_18 ⟨Nat.le_of_ble_eq_true rfl, Nat.le_of_ble_eq_true rfl⟩) hS (fun H locs hP hD hS => ?_)
    have hP : va_P D vwCl (zWT cI cJ h (n, L) (kt, km, kl) (pt, pm, pl) (nu, le, ow, fo, run, wc, lc, tr, cl, tm, ms) (yl, yc, yt, co, pa, su, sc) mc ++ R) _ := hP
    have hD : va_D (zAb B) (zWT cI cJ h (n, L) (kt, km, kl) (pt, pm, pl) (nu, le, ow, fo, run, wc, lc, tr, cl, tm, ms) (yl, yc, yt, co, pa, su, sc) mc ++ R) := hD
    refine lv_i2l (v := ((kt k)).toInt64) hx hb dX4_digestOfRecord_21 rfl ?_
    refine zcl (zrS (As := [.long d, .long (((kt k)).toInt64)]) (rest := []) ⟨hx, hb, hml, hown, hts⟩ (zS hP hD hK hE hB hS) (c_X4_mixed  ) (va_cwS 2 hts gX4_digestOfRecord_X4_mixed rfl rfl rfl hds_X4_mixed ⟨Nat.le_of_ble_eq_true rfl, Nat.le_of_ble_eq_true rfl⟩) rfl rfl hl.1 rfl (lv_room (Nat.le_of_ble_eq_true rfl)) dX4_digestOfRecord_22 ⟨Nat.le_of_ble_eq_true rfl, Nat.le_of_ble_eq_true rfl⟩) hS (fun H locs hP hD hS => ?_)
    have hP : va_P D vwCl (zWT cI cJ h (n, L) (kt, km, kl) (pt, pm, pl) (nu, le, ow, fo, run, wc, lc, tr, cl, tm, ms) (yl, yc, yt, co, pa, su, sc) mc ++ R) _ := hP
    have hD : va_D (zAb B) (zWT cI cJ h (n, L) (kt, km, kl) (pt, pm, pl) (nu, le, ow, fo, run, wc, lc, tr, cl, tm, ms) (yl, yc, yt, co, pa, su, sc) mc ++ R) := hD
    refine lv_lstore (lv' := [(4, .long (zmx d (((kt k)).toInt64))), (6, .int 0), (0, .long d), (2, .ref (h 3)), (3, .int (nI k))]) hx hb dX4_digestOfRecord_25 hl (by decide) rfl (fun ls hl => ?_)
    refine lv_iinc (v := 1) (lv' := [(6, .int 1), (4, .long (zmx d (((kt k)).toInt64))), (0, .long d), (2, .ref (h 3)), (3, .int (nI k))]) hx hb dX4_digestOfRecord_27 hl (k := 1) rfl (by decide) (by decide) rfl (fun ls hl => ?_)
    refine lv_goto (tgt := 6) hx hb dX4_digestOfRecord_30 (by decide) ?_
    refine lv_iload hx hb dX4_digestOfRecord_6 (lv_at hl 0 rfl) ?_
    refine lv_iconst (v := 2) hx hb dX4_digestOfRecord_8 (by decide) ?_
    refine lv_icmp_gt (tgt := 33) hx hb dX4_digestOfRecord_9 (by decide) (fun c_2 => ?_) (fun c_2 => ?_)
    · skip
      exfalso; first | omega | (revert c_2; decide) | (exact absurd rfl c_2) | simp_all
    · skip
      refine lv_lload hx hb dX4_digestOfRecord_12 (lv_at hl 1 rfl) ?_
      refine lv_aload_n hx hb dX4_digestOfRecord_14 rfl (lv_at hl 3 rfl) ?_
      refine lv_iload_n hx hb dX4_digestOfRecord_15 rfl (lv_at hl 4 rfl) ?_
      refine lv_iload hx hb dX4_digestOfRecord_16 (lv_at hl 0 rfl) ?_
      refine zci (zrV (As := [.int (nI k), .int 1]) (rest := [.long (zmx d (((kt k)).toInt64))]) ⟨hx, hb, hml, hown, hts⟩ (zV 3 hP hD hK hE hB hS rfl rfl) (c_X1_tell_k1 (k := k) (by omega)) (cwV 2 hts gX4_digestOfRecord_X1_tell rfl rfl rfl hdv_X1_tell ⟨Nat.le_of_ble_eq_true rfl, Nat.le_of_ble_eq_true rfl⟩) rfl rfl hl.1 rfl (lv_room (Nat.le_of_ble_eq_true rfl)) dX4_digestOfRecord_18 ⟨Nat.le_of_ble_eq_true rfl, Nat.le_of_ble_eq_true rfl⟩) hS (fun H locs hP hD hS => ?_)
      have hP : va_P D vwCl (zWT cI cJ h (n, L) (kt, km, kl) (pt, pm, pl) (nu, le, ow, fo, run, wc, lc, tr, cl, tm, ms) (yl, yc, yt, co, pa, su, sc) mc ++ R) _ := hP
      have hD : va_D (zAb B) (zWT cI cJ h (n, L) (kt, km, kl) (pt, pm, pl) (nu, le, ow, fo, run, wc, lc, tr, cl, tm, ms) (yl, yc, yt, co, pa, su, sc) mc ++ R) := hD
      refine lv_i2l (v := ((km k)).toInt64) hx hb dX4_digestOfRecord_21 rfl ?_
      refine zcl (zrS (As := [.long (zmx d (((kt k)).toInt64)), .long (((km k)).toInt64)]) (rest := []) ⟨hx, hb, hml, hown, hts⟩ (zS hP hD hK hE hB hS) (c_X4_mixed  ) (va_cwS 2 hts gX4_digestOfRecord_X4_mixed rfl rfl rfl hds_X4_mixed ⟨Nat.le_of_ble_eq_true rfl, Nat.le_of_ble_eq_true rfl⟩) rfl rfl hl.1 rfl (lv_room (Nat.le_of_ble_eq_true rfl)) dX4_digestOfRecord_22 ⟨Nat.le_of_ble_eq_true rfl, Nat.le_of_ble_eq_true rfl⟩) hS (fun H locs hP hD hS => ?_)
      have hP : va_P D vwCl (zWT cI cJ h (n, L) (kt, km, kl) (pt, pm, pl) (nu, le, ow, fo, run, wc, lc, tr, cl, tm, ms) (yl, yc, yt, co, pa, su, sc) mc ++ R) _ := hP
      have hD : va_D (zAb B) (zWT cI cJ h (n, L) (kt, km, kl) (pt, pm, pl) (nu, le, ow, fo, run, wc, lc, tr, cl, tm, ms) (yl, yc, yt, co, pa, su, sc) mc ++ R) := hD
      refine lv_lstore (lv' := [(4, .long (zmx (zmx d (((kt k)).toInt64)) (((km k)).toInt64))), (6, .int 1), (0, .long d), (2, .ref (h 3)), (3, .int (nI k))]) hx hb dX4_digestOfRecord_25 hl (by decide) rfl (fun ls hl => ?_)
      refine lv_iinc (v := 2) (lv' := [(6, .int 2), (4, .long (zmx (zmx d (((kt k)).toInt64)) (((km k)).toInt64))), (0, .long d), (2, .ref (h 3)), (3, .int (nI k))]) hx hb dX4_digestOfRecord_27 hl (k := 1) rfl (by decide) (by decide) rfl (fun ls hl => ?_)
      refine lv_goto (tgt := 6) hx hb dX4_digestOfRecord_30 (by decide) ?_
      refine lv_iload hx hb dX4_digestOfRecord_6 (lv_at hl 0 rfl) ?_
      refine lv_iconst (v := 2) hx hb dX4_digestOfRecord_8 (by decide) ?_
      refine lv_icmp_gt (tgt := 33) hx hb dX4_digestOfRecord_9 (by decide) (fun c_3 => ?_) (fun c_3 => ?_)
      · skip
        exfalso; first | omega | (revert c_3; decide) | (exact absurd rfl c_3) | simp_all
      · skip
        refine lv_lload hx hb dX4_digestOfRecord_12 (lv_at hl 1 rfl) ?_
        refine lv_aload_n hx hb dX4_digestOfRecord_14 rfl (lv_at hl 3 rfl) ?_
        refine lv_iload_n hx hb dX4_digestOfRecord_15 rfl (lv_at hl 4 rfl) ?_
        refine lv_iload hx hb dX4_digestOfRecord_16 (lv_at hl 0 rfl) ?_
        refine zci (zrV (As := [.int (nI k), .int 2]) (rest := [.long (zmx (zmx d (((kt k)).toInt64)) (((km k)).toInt64))]) ⟨hx, hb, hml, hown, hts⟩ (zV 3 hP hD hK hE hB hS rfl rfl) (c_X1_tell_k2 (k := k) (by omega)) (cwV 2 hts gX4_digestOfRecord_X1_tell rfl rfl rfl hdv_X1_tell ⟨Nat.le_of_ble_eq_true rfl, Nat.le_of_ble_eq_true rfl⟩) rfl rfl hl.1 rfl (lv_room (Nat.le_of_ble_eq_true rfl)) dX4_digestOfRecord_18 ⟨Nat.le_of_ble_eq_true rfl, Nat.le_of_ble_eq_true rfl⟩) hS (fun H locs hP hD hS => ?_)
        have hP : va_P D vwCl (zWT cI cJ h (n, L) (kt, km, kl) (pt, pm, pl) (nu, le, ow, fo, run, wc, lc, tr, cl, tm, ms) (yl, yc, yt, co, pa, su, sc) mc ++ R) _ := hP
        have hD : va_D (zAb B) (zWT cI cJ h (n, L) (kt, km, kl) (pt, pm, pl) (nu, le, ow, fo, run, wc, lc, tr, cl, tm, ms) (yl, yc, yt, co, pa, su, sc) mc ++ R) := hD
        refine lv_i2l (v := ((kl k)).toInt64) hx hb dX4_digestOfRecord_21 rfl ?_
        refine zcl (zrS (As := [.long (zmx (zmx d (((kt k)).toInt64)) (((km k)).toInt64)), .long (((kl k)).toInt64)]) (rest := []) ⟨hx, hb, hml, hown, hts⟩ (zS hP hD hK hE hB hS) (c_X4_mixed  ) (va_cwS 2 hts gX4_digestOfRecord_X4_mixed rfl rfl rfl hds_X4_mixed ⟨Nat.le_of_ble_eq_true rfl, Nat.le_of_ble_eq_true rfl⟩) rfl rfl hl.1 rfl (lv_room (Nat.le_of_ble_eq_true rfl)) dX4_digestOfRecord_22 ⟨Nat.le_of_ble_eq_true rfl, Nat.le_of_ble_eq_true rfl⟩) hS (fun H locs hP hD hS => ?_)
        have hP : va_P D vwCl (zWT cI cJ h (n, L) (kt, km, kl) (pt, pm, pl) (nu, le, ow, fo, run, wc, lc, tr, cl, tm, ms) (yl, yc, yt, co, pa, su, sc) mc ++ R) _ := hP
        have hD : va_D (zAb B) (zWT cI cJ h (n, L) (kt, km, kl) (pt, pm, pl) (nu, le, ow, fo, run, wc, lc, tr, cl, tm, ms) (yl, yc, yt, co, pa, su, sc) mc ++ R) := hD
        refine lv_lstore (lv' := [(4, .long (zmx (zmx (zmx d (((kt k)).toInt64)) (((km k)).toInt64)) (((kl k)).toInt64))), (6, .int 2), (0, .long d), (2, .ref (h 3)), (3, .int (nI k))]) hx hb dX4_digestOfRecord_25 hl (by decide) rfl (fun ls hl => ?_)
        refine lv_iinc (v := 3) (lv' := [(6, .int 3), (4, .long (zmx (zmx (zmx d (((kt k)).toInt64)) (((km k)).toInt64)) (((kl k)).toInt64))), (0, .long d), (2, .ref (h 3)), (3, .int (nI k))]) hx hb dX4_digestOfRecord_27 hl (k := 1) rfl (by decide) (by decide) rfl (fun ls hl => ?_)
        refine lv_goto (tgt := 6) hx hb dX4_digestOfRecord_30 (by decide) ?_
        refine lv_iload hx hb dX4_digestOfRecord_6 (lv_at hl 0 rfl) ?_
        refine lv_iconst (v := 2) hx hb dX4_digestOfRecord_8 (by decide) ?_
        refine lv_icmp_gt (tgt := 33) hx hb dX4_digestOfRecord_9 (by decide) (fun c_4 => ?_) (fun c_4 => ?_)
        · skip
          refine lv_lload hx hb dX4_digestOfRecord_33 (lv_at hl 1 rfl) ?_
          exact W.lret (v := (zmx (zmx (zmx d (((kt k)).toInt64)) (((km k)).toInt64)) (((kl k)).toInt64))) hx hb hr (fun t ht hW => ⟨⟨_, (), rfl, rfl, by rw [ht]; exact hP, hD⟩, hS.F ht⟩) hS.2.2 dX4_digestOfRecord_35
        · skip
          exfalso; first | omega | (revert c_4; decide) | (exact absurd rfl c_4) | simp_all

set_option maxHeartbeats 1000000 in
set_option maxRecDepth 100000 in
theorem c_X4_digestOfRecord_p {l : Launch} {B kr kp : Nat} {D : va_G} {cI cJ cZ : ClassId} {h : Nat → Nat} {R : va_W} {n : Nat} {L : Nat → Int64} {kt : Nat → Int32} {km : Nat → Int32} {kl : Nat → Int32} {pt : Nat → Int32} {pm : Nat → Int32} {pl : Nat → Int32} {nu : Nat → Int32} {le : Nat → Int32} {ow : Nat → Int32} {fo : Nat → Int32} {run : Bool} {wc : Nat} {lc : Nat} {tr : Nat} {cl : Nat} {tm : Nat} {ms : Nat} {yl : Nat → Int32} {yc : Nat → Int32} {yt : Nat → Int32} {co : Nat} {pa : Int32} {su : Nat} {sc : Nat} {mc : Nat → Int32} {d : Int64} {k : Nat}   (hk : k < 676) : Met l yX4_digestOfRecord wsX4_digestOfRecord ({ frames := 2, cells := 0, slots := 0, locals := 43 }) (zPc B kr kp D (zTy cI cJ cZ) (zWT cI cJ h (n, L) (kt, km, kl) (pt, pm, pl) (nu, le, ow, fo, run, wc, lc, tr, cl, tm, ms) (yl, yc, yt, co, pa, su, sc) mc ++ R) [.long d, .ref (h 7), .int (nI k)]) (zQl B D (zWT cI cJ h (n, L) (kt, km, kl) (pt, pm, pl) (nu, le, ow, fo, run, wc, lc, tr, cl, tm, ms) (yl, yc, yt, co, pa, su, sc) mc ++ R) (zdr d (pt k) (pm k) (pl k))) 0 0 (zAb B) := by
  refine Met.ofW (cc := cX4_digestOfRecord) (maxL := 7) (ret := (some .long)) (by decide) rfl ?_
  intro p e s m args below meth c s₁ B0 hml hv
  obtain ⟨rfl, hP, hD, hK, hE, hB⟩ := hv
  have hx := B0.exec
  have hb := B0.bytes
  have hr := B0.returns
  have hts := atoms_spec (ws := wsX4_digestOfRecord) B0.pre
  have hown : s.vm.findClass RX4 = some m.cls := findClass_of_methodNamed B0.named
  have hlocks := B0.notSynchronized
  have hA : ∀ q : Nat, s.heap.size ≤ q → zAb B q := fun q hq => Nat.le_trans hB hq
  have hS : va_S (zAb B) s.heap s.heap [] := va_S.rf
  have hgr : s.heap.size ≤ s.heap.size := Nat.le_refl _
  have hl := lv_entry ([.long d, .ref (h 7), .int (nI k)]) (n := 7) (Nat.le_of_ble_eq_true rfl)
  rw [lg_entry_eq]
  generalize (lg_sl ([.long d, .ref (h 7), .int (nI k)]) ++ List.replicate (7 - (lg_sl ([.long d, .ref (h 7), .int (nI k)])).length) Slot.unset).toArray = ls at hl ⊢
  have hl : lv_has ls 7 [(0, .long d), (2, .ref (h 7)), (3, .int (nI k))] := hl
  have hP : va_P D vwCl (zWT cI cJ h (n, L) (kt, km, kl) (pt, pm, pl) (nu, le, ow, fo, run, wc, lc, tr, cl, tm, ms) (yl, yc, yt, co, pa, su, sc) mc ++ R) s.heap := hP
  have hD : va_D (zAb B) (zWT cI cJ h (n, L) (kt, km, kl) (pt, pm, pl) (nu, le, ow, fo, run, wc, lc, tr, cl, tm, ms) (yl, yc, yt, co, pa, su, sc) mc ++ R) := hD
  refine lv_lload_n hx hb dX4_digestOfRecord_0 rfl (lv_at hl 0 rfl) ?_
  refine lv_lstore (lv' := [(4, .long d), (0, .long d), (2, .ref (h 7)), (3, .int (nI k))]) hx hb dX4_digestOfRecord_1 hl (by decide) rfl (fun ls hl => ?_)
  refine lv_iconst (v := 0) hx hb dX4_digestOfRecord_3 (by decide) ?_
  refine lv_istore (lv' := [(6, .int 0), (4, .long d), (0, .long d), (2, .ref (h 7)), (3, .int (nI k))]) hx hb dX4_digestOfRecord_4 hl (by decide) rfl (fun ls hl => ?_)
  refine lv_iload hx hb dX4_digestOfRecord_6 (lv_at hl 0 rfl) ?_
  refine lv_iconst (v := 2) hx hb dX4_digestOfRecord_8 (by decide) ?_
  refine lv_icmp_gt (tgt := 33) hx hb dX4_digestOfRecord_9 (by decide) (fun c_1 => ?_) (fun c_1 => ?_)
  · skip
    exfalso; first | omega | (revert c_1; decide) | (exact absurd rfl c_1) | simp_all
  · skip
    refine lv_lload hx hb dX4_digestOfRecord_12 (lv_at hl 1 rfl) ?_
    refine lv_aload_n hx hb dX4_digestOfRecord_14 rfl (lv_at hl 3 rfl) ?_
    refine lv_iload_n hx hb dX4_digestOfRecord_15 rfl (lv_at hl 4 rfl) ?_
    refine lv_iload hx hb dX4_digestOfRecord_16 (lv_at hl 0 rfl) ?_
    refine zci (zrV (As := [.int (nI k), .int 0]) (rest := [.long d]) ⟨hx, hb, hml, hown, hts⟩ (zV 7 hP hD hK hE hB hS rfl rfl) (c_X1_tell_p0 (k := k) (by omega)) (cwV 2 hts gX4_digestOfRecord_X1_tell rfl rfl rfl hdv_X1_tell ⟨Nat.le_of_ble_eq_true rfl, Nat.le_of_ble_eq_true rfl⟩) rfl rfl hl.1 rfl (lv_room (Nat.le_of_ble_eq_true rfl)) dX4_digestOfRecord_18 ⟨Nat.le_of_ble_eq_true rfl, Nat.le_of_ble_eq_true rfl⟩) hS (fun H locs hP hD hS => ?_)
    have hP : va_P D vwCl (zWT cI cJ h (n, L) (kt, km, kl) (pt, pm, pl) (nu, le, ow, fo, run, wc, lc, tr, cl, tm, ms) (yl, yc, yt, co, pa, su, sc) mc ++ R) _ := hP
    have hD : va_D (zAb B) (zWT cI cJ h (n, L) (kt, km, kl) (pt, pm, pl) (nu, le, ow, fo, run, wc, lc, tr, cl, tm, ms) (yl, yc, yt, co, pa, su, sc) mc ++ R) := hD
    refine lv_i2l (v := ((pt k)).toInt64) hx hb dX4_digestOfRecord_21 rfl ?_
    refine zcl (zrS (As := [.long d, .long (((pt k)).toInt64)]) (rest := []) ⟨hx, hb, hml, hown, hts⟩ (zS hP hD hK hE hB hS) (c_X4_mixed  ) (va_cwS 2 hts gX4_digestOfRecord_X4_mixed rfl rfl rfl hds_X4_mixed ⟨Nat.le_of_ble_eq_true rfl, Nat.le_of_ble_eq_true rfl⟩) rfl rfl hl.1 rfl (lv_room (Nat.le_of_ble_eq_true rfl)) dX4_digestOfRecord_22 ⟨Nat.le_of_ble_eq_true rfl, Nat.le_of_ble_eq_true rfl⟩) hS (fun H locs hP hD hS => ?_)
    have hP : va_P D vwCl (zWT cI cJ h (n, L) (kt, km, kl) (pt, pm, pl) (nu, le, ow, fo, run, wc, lc, tr, cl, tm, ms) (yl, yc, yt, co, pa, su, sc) mc ++ R) _ := hP
    have hD : va_D (zAb B) (zWT cI cJ h (n, L) (kt, km, kl) (pt, pm, pl) (nu, le, ow, fo, run, wc, lc, tr, cl, tm, ms) (yl, yc, yt, co, pa, su, sc) mc ++ R) := hD
    refine lv_lstore (lv' := [(4, .long (zmx d (((pt k)).toInt64))), (6, .int 0), (0, .long d), (2, .ref (h 7)), (3, .int (nI k))]) hx hb dX4_digestOfRecord_25 hl (by decide) rfl (fun ls hl => ?_)
    refine lv_iinc (v := 1) (lv' := [(6, .int 1), (4, .long (zmx d (((pt k)).toInt64))), (0, .long d), (2, .ref (h 7)), (3, .int (nI k))]) hx hb dX4_digestOfRecord_27 hl (k := 1) rfl (by decide) (by decide) rfl (fun ls hl => ?_)
    refine lv_goto (tgt := 6) hx hb dX4_digestOfRecord_30 (by decide) ?_
    refine lv_iload hx hb dX4_digestOfRecord_6 (lv_at hl 0 rfl) ?_
    refine lv_iconst (v := 2) hx hb dX4_digestOfRecord_8 (by decide) ?_
    refine lv_icmp_gt (tgt := 33) hx hb dX4_digestOfRecord_9 (by decide) (fun c_2 => ?_) (fun c_2 => ?_)
    · skip
      exfalso; first | omega | (revert c_2; decide) | (exact absurd rfl c_2) | simp_all
    · skip
      refine lv_lload hx hb dX4_digestOfRecord_12 (lv_at hl 1 rfl) ?_
      refine lv_aload_n hx hb dX4_digestOfRecord_14 rfl (lv_at hl 3 rfl) ?_
      refine lv_iload_n hx hb dX4_digestOfRecord_15 rfl (lv_at hl 4 rfl) ?_
      refine lv_iload hx hb dX4_digestOfRecord_16 (lv_at hl 0 rfl) ?_
      refine zci (zrV (As := [.int (nI k), .int 1]) (rest := [.long (zmx d (((pt k)).toInt64))]) ⟨hx, hb, hml, hown, hts⟩ (zV 7 hP hD hK hE hB hS rfl rfl) (c_X1_tell_p1 (k := k) (by omega)) (cwV 2 hts gX4_digestOfRecord_X1_tell rfl rfl rfl hdv_X1_tell ⟨Nat.le_of_ble_eq_true rfl, Nat.le_of_ble_eq_true rfl⟩) rfl rfl hl.1 rfl (lv_room (Nat.le_of_ble_eq_true rfl)) dX4_digestOfRecord_18 ⟨Nat.le_of_ble_eq_true rfl, Nat.le_of_ble_eq_true rfl⟩) hS (fun H locs hP hD hS => ?_)
      have hP : va_P D vwCl (zWT cI cJ h (n, L) (kt, km, kl) (pt, pm, pl) (nu, le, ow, fo, run, wc, lc, tr, cl, tm, ms) (yl, yc, yt, co, pa, su, sc) mc ++ R) _ := hP
      have hD : va_D (zAb B) (zWT cI cJ h (n, L) (kt, km, kl) (pt, pm, pl) (nu, le, ow, fo, run, wc, lc, tr, cl, tm, ms) (yl, yc, yt, co, pa, su, sc) mc ++ R) := hD
      refine lv_i2l (v := ((pm k)).toInt64) hx hb dX4_digestOfRecord_21 rfl ?_
      refine zcl (zrS (As := [.long (zmx d (((pt k)).toInt64)), .long (((pm k)).toInt64)]) (rest := []) ⟨hx, hb, hml, hown, hts⟩ (zS hP hD hK hE hB hS) (c_X4_mixed  ) (va_cwS 2 hts gX4_digestOfRecord_X4_mixed rfl rfl rfl hds_X4_mixed ⟨Nat.le_of_ble_eq_true rfl, Nat.le_of_ble_eq_true rfl⟩) rfl rfl hl.1 rfl (lv_room (Nat.le_of_ble_eq_true rfl)) dX4_digestOfRecord_22 ⟨Nat.le_of_ble_eq_true rfl, Nat.le_of_ble_eq_true rfl⟩) hS (fun H locs hP hD hS => ?_)
      have hP : va_P D vwCl (zWT cI cJ h (n, L) (kt, km, kl) (pt, pm, pl) (nu, le, ow, fo, run, wc, lc, tr, cl, tm, ms) (yl, yc, yt, co, pa, su, sc) mc ++ R) _ := hP
      have hD : va_D (zAb B) (zWT cI cJ h (n, L) (kt, km, kl) (pt, pm, pl) (nu, le, ow, fo, run, wc, lc, tr, cl, tm, ms) (yl, yc, yt, co, pa, su, sc) mc ++ R) := hD
      refine lv_lstore (lv' := [(4, .long (zmx (zmx d (((pt k)).toInt64)) (((pm k)).toInt64))), (6, .int 1), (0, .long d), (2, .ref (h 7)), (3, .int (nI k))]) hx hb dX4_digestOfRecord_25 hl (by decide) rfl (fun ls hl => ?_)
      refine lv_iinc (v := 2) (lv' := [(6, .int 2), (4, .long (zmx (zmx d (((pt k)).toInt64)) (((pm k)).toInt64))), (0, .long d), (2, .ref (h 7)), (3, .int (nI k))]) hx hb dX4_digestOfRecord_27 hl (k := 1) rfl (by decide) (by decide) rfl (fun ls hl => ?_)
      refine lv_goto (tgt := 6) hx hb dX4_digestOfRecord_30 (by decide) ?_
      refine lv_iload hx hb dX4_digestOfRecord_6 (lv_at hl 0 rfl) ?_
      refine lv_iconst (v := 2) hx hb dX4_digestOfRecord_8 (by decide) ?_
      refine lv_icmp_gt (tgt := 33) hx hb dX4_digestOfRecord_9 (by decide) (fun c_3 => ?_) (fun c_3 => ?_)
      · skip
        exfalso; first | omega | (revert c_3; decide) | (exact absurd rfl c_3) | simp_all
      · skip
        refine lv_lload hx hb dX4_digestOfRecord_12 (lv_at hl 1 rfl) ?_
        refine lv_aload_n hx hb dX4_digestOfRecord_14 rfl (lv_at hl 3 rfl) ?_
        refine lv_iload_n hx hb dX4_digestOfRecord_15 rfl (lv_at hl 4 rfl) ?_
        refine lv_iload hx hb dX4_digestOfRecord_16 (lv_at hl 0 rfl) ?_
        refine zci (zrV (As := [.int (nI k), .int 2]) (rest := [.long (zmx (zmx d (((pt k)).toInt64)) (((pm k)).toInt64))]) ⟨hx, hb, hml, hown, hts⟩ (zV 7 hP hD hK hE hB hS rfl rfl) (c_X1_tell_p2 (k := k) (by omega)) (cwV 2 hts gX4_digestOfRecord_X1_tell rfl rfl rfl hdv_X1_tell ⟨Nat.le_of_ble_eq_true rfl, Nat.le_of_ble_eq_true rfl⟩) rfl rfl hl.1 rfl (lv_room (Nat.le_of_ble_eq_true rfl)) dX4_digestOfRecord_18 ⟨Nat.le_of_ble_eq_true rfl, Nat.le_of_ble_eq_true rfl⟩) hS (fun H locs hP hD hS => ?_)
        have hP : va_P D vwCl (zWT cI cJ h (n, L) (kt, km, kl) (pt, pm, pl) (nu, le, ow, fo, run, wc, lc, tr, cl, tm, ms) (yl, yc, yt, co, pa, su, sc) mc ++ R) _ := hP
        have hD : va_D (zAb B) (zWT cI cJ h (n, L) (kt, km, kl) (pt, pm, pl) (nu, le, ow, fo, run, wc, lc, tr, cl, tm, ms) (yl, yc, yt, co, pa, su, sc) mc ++ R) := hD
        refine lv_i2l (v := ((pl k)).toInt64) hx hb dX4_digestOfRecord_21 rfl ?_
        refine zcl (zrS (As := [.long (zmx (zmx d (((pt k)).toInt64)) (((pm k)).toInt64)), .long (((pl k)).toInt64)]) (rest := []) ⟨hx, hb, hml, hown, hts⟩ (zS hP hD hK hE hB hS) (c_X4_mixed  ) (va_cwS 2 hts gX4_digestOfRecord_X4_mixed rfl rfl rfl hds_X4_mixed ⟨Nat.le_of_ble_eq_true rfl, Nat.le_of_ble_eq_true rfl⟩) rfl rfl hl.1 rfl (lv_room (Nat.le_of_ble_eq_true rfl)) dX4_digestOfRecord_22 ⟨Nat.le_of_ble_eq_true rfl, Nat.le_of_ble_eq_true rfl⟩) hS (fun H locs hP hD hS => ?_)
        have hP : va_P D vwCl (zWT cI cJ h (n, L) (kt, km, kl) (pt, pm, pl) (nu, le, ow, fo, run, wc, lc, tr, cl, tm, ms) (yl, yc, yt, co, pa, su, sc) mc ++ R) _ := hP
        have hD : va_D (zAb B) (zWT cI cJ h (n, L) (kt, km, kl) (pt, pm, pl) (nu, le, ow, fo, run, wc, lc, tr, cl, tm, ms) (yl, yc, yt, co, pa, su, sc) mc ++ R) := hD
        refine lv_lstore (lv' := [(4, .long (zmx (zmx (zmx d (((pt k)).toInt64)) (((pm k)).toInt64)) (((pl k)).toInt64))), (6, .int 2), (0, .long d), (2, .ref (h 7)), (3, .int (nI k))]) hx hb dX4_digestOfRecord_25 hl (by decide) rfl (fun ls hl => ?_)
        refine lv_iinc (v := 3) (lv' := [(6, .int 3), (4, .long (zmx (zmx (zmx d (((pt k)).toInt64)) (((pm k)).toInt64)) (((pl k)).toInt64))), (0, .long d), (2, .ref (h 7)), (3, .int (nI k))]) hx hb dX4_digestOfRecord_27 hl (k := 1) rfl (by decide) (by decide) rfl (fun ls hl => ?_)
        refine lv_goto (tgt := 6) hx hb dX4_digestOfRecord_30 (by decide) ?_
        refine lv_iload hx hb dX4_digestOfRecord_6 (lv_at hl 0 rfl) ?_
        refine lv_iconst (v := 2) hx hb dX4_digestOfRecord_8 (by decide) ?_
        refine lv_icmp_gt (tgt := 33) hx hb dX4_digestOfRecord_9 (by decide) (fun c_4 => ?_) (fun c_4 => ?_)
        · skip
          refine lv_lload hx hb dX4_digestOfRecord_33 (lv_at hl 1 rfl) ?_
          exact W.lret (v := (zmx (zmx (zmx d (((pt k)).toInt64)) (((pm k)).toInt64)) (((pl k)).toInt64))) hx hb hr (fun t ht hW => ⟨⟨_, (), rfl, rfl, by rw [ht]; exact hP, hD⟩, hS.F ht⟩) hS.2.2 dX4_digestOfRecord_35
        · skip
          exfalso; first | omega | (revert c_4; decide) | (exact absurd rfl c_4) | simp_all

set_option maxHeartbeats 1000000 in
set_option maxRecDepth 100000 in
theorem c_X4_digestOfKnowledge {l : Launch} {B kr kp : Nat} {D : va_G} {cI cJ cZ : ClassId} {h : Nat → Nat} {R : va_W} {n : Nat} {L : Nat → Int64} {kt : Nat → Int32} {km : Nat → Int32} {kl : Nat → Int32} {pt : Nat → Int32} {pm : Nat → Int32} {pl : Nat → Int32} {nu : Nat → Int32} {le : Nat → Int32} {ow : Nat → Int32} {fo : Nat → Int32} {run : Bool} {wc : Nat} {lc : Nat} {tr : Nat} {cl : Nat} {tm : Nat} {ms : Nat} {yl : Nat → Int32} {yc : Nat → Int32} {yt : Nat → Int32} {co : Nat} {pa : Int32} {su : Nat} {sc : Nat} {mc : Nat → Int32} {d : Int64}   (hpt : ∀ p, p < 676 → ∃ k, k < 2147483648 ∧ pt p = nI k) : Met l yX4_digestOfKnowledge wsX4_digestOfKnowledge ({ frames := 3, cells := 0, slots := 0, locals := 69 }) (zPc B kr kp D (zTy cI cJ cZ) (zWT cI cJ h (n, L) (kt, km, kl) (pt, pm, pl) (nu, le, ow, fo, run, wc, lc, tr, cl, tm, ms) (yl, yc, yt, co, pa, su, sc) mc ++ R) [.ref (h 0), .long d]) (zQl B D (zWT cI cJ h (n, L) (kt, km, kl) (pt, pm, pl) (nu, le, ow, fo, run, wc, lc, tr, cl, tm, ms) (yl, yc, yt, co, pa, su, sc) mc ++ R) (zd4 mc (zdP pt pm pl (zdK kt km kl d 26) 676))) 0 0 (zAb B) := by
  refine Met.ofW (cc := cX4_digestOfKnowledge) (maxL := 6) (ret := (some .long)) (by decide) rfl ?_
  intro p e s m args below meth c s₁ B0 hml hv
  obtain ⟨rfl, hP, hD, hK, hE, hB⟩ := hv
  have hx := B0.exec
  have hb := B0.bytes
  have hr := B0.returns
  have hts := atoms_spec (ws := wsX4_digestOfKnowledge) B0.pre
  have hown : s.vm.findClass RX4 = some m.cls := findClass_of_methodNamed B0.named
  have hlocks := B0.notSynchronized
  have hA : ∀ q : Nat, s.heap.size ≤ q → zAb B q := fun q hq => Nat.le_trans hB hq
  have hS : va_S (zAb B) s.heap s.heap [] := va_S.rf
  have hgr : s.heap.size ≤ s.heap.size := Nat.le_refl _
  have hl := lv_entry ([.ref (h 0), .long d]) (n := 6) (Nat.le_of_ble_eq_true rfl)
  rw [lg_entry_eq]
  generalize (lg_sl ([.ref (h 0), .long d]) ++ List.replicate (6 - (lg_sl ([.ref (h 0), .long d])).length) Slot.unset).toArray = ls at hl ⊢
  have hl : lv_has ls 6 [(0, .ref (h 0)), (1, .long d)] := hl
  have hinX4 : ∀ w ∈ wsX40, w ∈ wsX4_digestOfKnowledge := fun _ h => List.mem_cons_of_mem _ (List.mem_append_left _ (List.mem_append_right _ h))
  have hP : va_P D vwCl (zWT cI cJ h (n, L) (kt, km, kl) (pt, pm, pl) (nu, le, ow, fo, run, wc, lc, tr, cl, tm, ms) (yl, yc, yt, co, pa, su, sc) mc ++ R) s.heap := hP
  have hD : va_D (zAb B) (zWT cI cJ h (n, L) (kt, km, kl) (pt, pm, pl) (nu, le, ow, fo, run, wc, lc, tr, cl, tm, ms) (yl, yc, yt, co, pa, su, sc) mc ++ R) := hD
  refine lv_lload_n hx hb dX4_digestOfKnowledge_0 rfl (lv_at hl 1 rfl) ?_
  refine lv_lstore_n (lv' := [(3, .long d), (0, .ref (h 0)), (1, .long d)]) hx hb dX4_digestOfKnowledge_1 rfl hl (by decide) rfl (fun ls hl => ?_)
  refine lv_iconst (v := 0) hx hb dX4_digestOfKnowledge_2 (by decide) ?_
  refine lv_istore (lv' := [(5, .int 0), (3, .long d), (0, .ref (h 0)), (1, .long d)]) hx hb dX4_digestOfKnowledge_3 hl (by decide) rfl (fun ls hl => ?_)
  refine zloop (σ := (Nat) × (Int64)) (nL := 6) (fun x9 => (zWT cI cJ h (n, L) (kt, km, kl) (pt, pm, pl) (nu, le, ow, fo, run, wc, lc, tr, cl, tm, ms) (yl, yc, yt, co, pa, su, sc) mc ++ R)) (fun x9 => [(5, .int (nI x9.1)), (3, .long x9.2), (0, .ref (h 0)), (1, .long d)]) (fun x9 => []) (fun x9 => (x9.1 ≤ 26) ∧ x9.2 = zdK kt km kl d x9.1) (fun x9 => 26 - x9.1) ?_ (0, d) (⟨by omega, rfl⟩) _ _ _ hP hD hS (lv_sub hl [0, 1, 2, 3] rfl)
  rintro ⟨j, z⟩ hI ih H locs ls hP hD hS hl
  try dsimp only at hI ih hP hD hS hl ⊢
  obtain ⟨hI, rfl⟩ := hI
  refine lv_iload hx hb dX4_digestOfKnowledge_5 (lv_at hl 0 rfl) ?_
  refine lv_bipush (v := 26) hx hb dX4_digestOfKnowledge_7 (by decide) ?_
  refine lv_icmp_ge (tgt := 29) hx hb dX4_digestOfKnowledge_9 (by decide) (fun c_1 => ?_) (fun c_1 => ?_)
  · skip
    have c_1 : 26 ≤ j := (nI_leI (a := 26) (b := j) (by omega) (by omega)).mp c_1
    obtain rfl : 26 = j := by omega
    refine lv_iconst (v := 0) hx hb dX4_digestOfKnowledge_29 (by decide) ?_
    refine lv_istore (lv' := [(5, .int 0), (3, .long (zdK kt km kl d 26)), (0, .ref (h 0)), (1, .long d)]) hx hb dX4_digestOfKnowledge_30 hl (by decide) rfl (fun ls hl => ?_)
    refine zloop (σ := (Nat) × (Int64)) (nL := 6) (fun x9 => (zWT cI cJ h (n, L) (kt, km, kl) (pt, pm, pl) (nu, le, ow, fo, run, wc, lc, tr, cl, tm, ms) (yl, yc, yt, co, pa, su, sc) mc ++ R)) (fun x9 => [(5, .int (nI x9.1)), (3, .long x9.2), (0, .ref (h 0)), (1, .long d)]) (fun x9 => []) (fun x9 => (x9.1 ≤ 676) ∧ x9.2 = zdP pt pm pl (zdK kt km kl d 26) x9.1) (fun x9 => 676 - x9.1) ?_ (0, zdK kt km kl d 26) (⟨by omega, rfl⟩) _ _ _ hP hD hS (lv_sub hl [0, 1, 2, 3] rfl)
    rintro ⟨j, z⟩ hI ih H locs ls hP hD hS hl
    try dsimp only at hI ih hP hD hS hl ⊢
    obtain ⟨hI, rfl⟩ := hI
    refine lv_iload hx hb dX4_digestOfKnowledge_32 (lv_at hl 0 rfl) ?_
    refine lv_sipush (v := 676) hx hb dX4_digestOfKnowledge_34 (by decide) ?_
    refine lv_icmp_ge (tgt := 75) hx hb dX4_digestOfKnowledge_37 (by decide) (fun c_2 => ?_) (fun c_2 => ?_)
    · skip
      have c_2 : 676 ≤ j := (nI_leI (a := 676) (b := j) (by omega) (by omega)).mp c_2
      obtain rfl : 676 = j := by omega
      refine lv_iconst (v := 1) hx hb dX4_digestOfKnowledge_75 (by decide) ?_
      refine lv_istore (lv' := [(5, .int 1), (3, .long (zdP pt pm pl (zdK kt km kl d 26) 676)), (0, .ref (h 0)), (1, .long d)]) hx hb dX4_digestOfKnowledge_76 hl (by decide) rfl (fun ls hl => ?_)
      refine lv_iload hx hb dX4_digestOfKnowledge_78 (lv_at hl 0 rfl) ?_
      refine lv_iconst (v := 4) hx hb dX4_digestOfKnowledge_80 (by decide) ?_
      refine lv_icmp_gt (tgt := 105) hx hb dX4_digestOfKnowledge_81 (by decide) (fun c_3 => ?_) (fun c_3 => ?_)
      · skip
        exfalso; first | omega | (revert c_3; decide) | (exact absurd rfl c_3) | simp_all
      · skip
        refine lv_lload_n hx hb dX4_digestOfKnowledge_84 rfl (lv_at hl 1 rfl) ?_
        refine lv_aload_n hx hb dX4_digestOfKnowledge_85 rfl (lv_at hl 2 rfl) ?_
        refine va_get (ci := 4) (v := .ref (h 20)) (C := RX4) (T := TX4) (N := 6) hx hb hts hinX4 hown hK hP 0 rfl rfl 5 (by decide) (hts (.fieldLink RX4 42 "TypingTutor" "mistakeCounts" "[I") (List.mem_of_getElem? (i := 3) rfl)) (fun _ h9 => h9) rfl dX4_digestOfKnowledge_86 ?_
        refine lv_iload hx hb dX4_digestOfKnowledge_89 (lv_at hl 0 rfl) ?_
        refine zci (zrS (As := [.ref (h 20), .int 1]) (rest := [.long (zdP pt pm pl (zdK kt km kl d 26) 676)]) ⟨hx, hb, hml, hown, hts⟩ (zS hP hD hK hE hB hS) (c_X4_read (q0 := 20) rfl (by omega)) (va_cwS 2 hts gX4_digestOfKnowledge_X4_read rfl rfl rfl hds_X4_read ⟨Nat.le_of_ble_eq_true rfl, Nat.le_of_ble_eq_true rfl⟩) rfl rfl hl.1 rfl (lv_room (Nat.le_of_ble_eq_true rfl)) dX4_digestOfKnowledge_91 ⟨Nat.le_of_ble_eq_true rfl, Nat.le_of_ble_eq_true rfl⟩) hS (fun H locs hP hD hS => ?_)
        have hP : va_P D vwCl (zWT cI cJ h (n, L) (kt, km, kl) (pt, pm, pl) (nu, le, ow, fo, run, wc, lc, tr, cl, tm, ms) (yl, yc, yt, co, pa, su, sc) mc ++ R) _ := hP
        have hD : va_D (zAb B) (zWT cI cJ h (n, L) (kt, km, kl) (pt, pm, pl) (nu, le, ow, fo, run, wc, lc, tr, cl, tm, ms) (yl, yc, yt, co, pa, su, sc) mc ++ R) := hD
        rw [show (zrd 5 mc 1) = (mc 1) from (zrd_in (n := 5) (k := 1) (f := mc) (by omega) (by omega))]
        refine lv_i2l (v := ((mc 1)).toInt64) hx hb dX4_digestOfKnowledge_94 rfl ?_
        refine zcl (zrS (As := [.long (zdP pt pm pl (zdK kt km kl d 26) 676), .long (((mc 1)).toInt64)]) (rest := []) ⟨hx, hb, hml, hown, hts⟩ (zS hP hD hK hE hB hS) (c_X4_mixed  ) (va_cwS 2 hts gX4_digestOfKnowledge_X4_mixed rfl rfl rfl hds_X4_mixed ⟨Nat.le_of_ble_eq_true rfl, Nat.le_of_ble_eq_true rfl⟩) rfl rfl hl.1 rfl (lv_room (Nat.le_of_ble_eq_true rfl)) dX4_digestOfKnowledge_95 ⟨Nat.le_of_ble_eq_true rfl, Nat.le_of_ble_eq_true rfl⟩) hS (fun H locs hP hD hS => ?_)
        have hP : va_P D vwCl (zWT cI cJ h (n, L) (kt, km, kl) (pt, pm, pl) (nu, le, ow, fo, run, wc, lc, tr, cl, tm, ms) (yl, yc, yt, co, pa, su, sc) mc ++ R) _ := hP
        have hD : va_D (zAb B) (zWT cI cJ h (n, L) (kt, km, kl) (pt, pm, pl) (nu, le, ow, fo, run, wc, lc, tr, cl, tm, ms) (yl, yc, yt, co, pa, su, sc) mc ++ R) := hD
        refine lv_lstore_n (lv' := [(3, .long (zmx (zdP pt pm pl (zdK kt km kl d 26) 676) (((mc 1)).toInt64))), (5, .int 1), (0, .ref (h 0)), (1, .long d)]) hx hb dX4_digestOfKnowledge_98 rfl hl (by decide) rfl (fun ls hl => ?_)
        refine lv_iinc (v := 2) (lv' := [(5, .int 2), (3, .long (zmx (zdP pt pm pl (zdK kt km kl d 26) 676) (((mc 1)).toInt64))), (0, .ref (h 0)), (1, .long d)]) hx hb dX4_digestOfKnowledge_99 hl (k := 1) rfl (by decide) (by decide) rfl (fun ls hl => ?_)
        refine lv_goto (tgt := 78) hx hb dX4_digestOfKnowledge_102 (by decide) ?_
        refine lv_iload hx hb dX4_digestOfKnowledge_78 (lv_at hl 0 rfl) ?_
        refine lv_iconst (v := 4) hx hb dX4_digestOfKnowledge_80 (by decide) ?_
        refine lv_icmp_gt (tgt := 105) hx hb dX4_digestOfKnowledge_81 (by decide) (fun c_4 => ?_) (fun c_4 => ?_)
        · skip
          exfalso; first | omega | (revert c_4; decide) | (exact absurd rfl c_4) | simp_all
        · skip
          refine lv_lload_n hx hb dX4_digestOfKnowledge_84 rfl (lv_at hl 1 rfl) ?_
          refine lv_aload_n hx hb dX4_digestOfKnowledge_85 rfl (lv_at hl 2 rfl) ?_
          refine va_get (ci := 4) (v := .ref (h 20)) (C := RX4) (T := TX4) (N := 6) hx hb hts hinX4 hown hK hP 0 rfl rfl 5 (by decide) (hts (.fieldLink RX4 42 "TypingTutor" "mistakeCounts" "[I") (List.mem_of_getElem? (i := 3) rfl)) (fun _ h9 => h9) rfl dX4_digestOfKnowledge_86 ?_
          refine lv_iload hx hb dX4_digestOfKnowledge_89 (lv_at hl 0 rfl) ?_
          refine zci (zrS (As := [.ref (h 20), .int 2]) (rest := [.long (zmx (zdP pt pm pl (zdK kt km kl d 26) 676) (((mc 1)).toInt64))]) ⟨hx, hb, hml, hown, hts⟩ (zS hP hD hK hE hB hS) (c_X4_read (q0 := 20) rfl (by omega)) (va_cwS 2 hts gX4_digestOfKnowledge_X4_read rfl rfl rfl hds_X4_read ⟨Nat.le_of_ble_eq_true rfl, Nat.le_of_ble_eq_true rfl⟩) rfl rfl hl.1 rfl (lv_room (Nat.le_of_ble_eq_true rfl)) dX4_digestOfKnowledge_91 ⟨Nat.le_of_ble_eq_true rfl, Nat.le_of_ble_eq_true rfl⟩) hS (fun H locs hP hD hS => ?_)
          have hP : va_P D vwCl (zWT cI cJ h (n, L) (kt, km, kl) (pt, pm, pl) (nu, le, ow, fo, run, wc, lc, tr, cl, tm, ms) (yl, yc, yt, co, pa, su, sc) mc ++ R) _ := hP
          have hD : va_D (zAb B) (zWT cI cJ h (n, L) (kt, km, kl) (pt, pm, pl) (nu, le, ow, fo, run, wc, lc, tr, cl, tm, ms) (yl, yc, yt, co, pa, su, sc) mc ++ R) := hD
          rw [show (zrd 5 mc 2) = (mc 2) from (zrd_in (n := 5) (k := 2) (f := mc) (by omega) (by omega))]
          refine lv_i2l (v := ((mc 2)).toInt64) hx hb dX4_digestOfKnowledge_94 rfl ?_
          refine zcl (zrS (As := [.long (zmx (zdP pt pm pl (zdK kt km kl d 26) 676) (((mc 1)).toInt64)), .long (((mc 2)).toInt64)]) (rest := []) ⟨hx, hb, hml, hown, hts⟩ (zS hP hD hK hE hB hS) (c_X4_mixed  ) (va_cwS 2 hts gX4_digestOfKnowledge_X4_mixed rfl rfl rfl hds_X4_mixed ⟨Nat.le_of_ble_eq_true rfl, Nat.le_of_ble_eq_true rfl⟩) rfl rfl hl.1 rfl (lv_room (Nat.le_of_ble_eq_true rfl)) dX4_digestOfKnowledge_95 ⟨Nat.le_of_ble_eq_true rfl, Nat.le_of_ble_eq_true rfl⟩) hS (fun H locs hP hD hS => ?_)
          have hP : va_P D vwCl (zWT cI cJ h (n, L) (kt, km, kl) (pt, pm, pl) (nu, le, ow, fo, run, wc, lc, tr, cl, tm, ms) (yl, yc, yt, co, pa, su, sc) mc ++ R) _ := hP
          have hD : va_D (zAb B) (zWT cI cJ h (n, L) (kt, km, kl) (pt, pm, pl) (nu, le, ow, fo, run, wc, lc, tr, cl, tm, ms) (yl, yc, yt, co, pa, su, sc) mc ++ R) := hD
          refine lv_lstore_n (lv' := [(3, .long (zmx (zmx (zdP pt pm pl (zdK kt km kl d 26) 676) (((mc 1)).toInt64)) (((mc 2)).toInt64))), (5, .int 2), (0, .ref (h 0)), (1, .long d)]) hx hb dX4_digestOfKnowledge_98 rfl hl (by decide) rfl (fun ls hl => ?_)
          refine lv_iinc (v := 3) (lv' := [(5, .int 3), (3, .long (zmx (zmx (zdP pt pm pl (zdK kt km kl d 26) 676) (((mc 1)).toInt64)) (((mc 2)).toInt64))), (0, .ref (h 0)), (1, .long d)]) hx hb dX4_digestOfKnowledge_99 hl (k := 1) rfl (by decide) (by decide) rfl (fun ls hl => ?_)
          refine lv_goto (tgt := 78) hx hb dX4_digestOfKnowledge_102 (by decide) ?_
          refine lv_iload hx hb dX4_digestOfKnowledge_78 (lv_at hl 0 rfl) ?_
          refine lv_iconst (v := 4) hx hb dX4_digestOfKnowledge_80 (by decide) ?_
          refine lv_icmp_gt (tgt := 105) hx hb dX4_digestOfKnowledge_81 (by decide) (fun c_5 => ?_) (fun c_5 => ?_)
          · skip
            exfalso; first | omega | (revert c_5; decide) | (exact absurd rfl c_5) | simp_all
          · skip
            refine lv_lload_n hx hb dX4_digestOfKnowledge_84 rfl (lv_at hl 1 rfl) ?_
            refine lv_aload_n hx hb dX4_digestOfKnowledge_85 rfl (lv_at hl 2 rfl) ?_
            refine va_get (ci := 4) (v := .ref (h 20)) (C := RX4) (T := TX4) (N := 6) hx hb hts hinX4 hown hK hP 0 rfl rfl 5 (by decide) (hts (.fieldLink RX4 42 "TypingTutor" "mistakeCounts" "[I") (List.mem_of_getElem? (i := 3) rfl)) (fun _ h9 => h9) rfl dX4_digestOfKnowledge_86 ?_
            refine lv_iload hx hb dX4_digestOfKnowledge_89 (lv_at hl 0 rfl) ?_
            refine zci (zrS (As := [.ref (h 20), .int 3]) (rest := [.long (zmx (zmx (zdP pt pm pl (zdK kt km kl d 26) 676) (((mc 1)).toInt64)) (((mc 2)).toInt64))]) ⟨hx, hb, hml, hown, hts⟩ (zS hP hD hK hE hB hS) (c_X4_read (q0 := 20) rfl (by omega)) (va_cwS 2 hts gX4_digestOfKnowledge_X4_read rfl rfl rfl hds_X4_read ⟨Nat.le_of_ble_eq_true rfl, Nat.le_of_ble_eq_true rfl⟩) rfl rfl hl.1 rfl (lv_room (Nat.le_of_ble_eq_true rfl)) dX4_digestOfKnowledge_91 ⟨Nat.le_of_ble_eq_true rfl, Nat.le_of_ble_eq_true rfl⟩) hS (fun H locs hP hD hS => ?_)
            have hP : va_P D vwCl (zWT cI cJ h (n, L) (kt, km, kl) (pt, pm, pl) (nu, le, ow, fo, run, wc, lc, tr, cl, tm, ms) (yl, yc, yt, co, pa, su, sc) mc ++ R) _ := hP
            have hD : va_D (zAb B) (zWT cI cJ h (n, L) (kt, km, kl) (pt, pm, pl) (nu, le, ow, fo, run, wc, lc, tr, cl, tm, ms) (yl, yc, yt, co, pa, su, sc) mc ++ R) := hD
            rw [show (zrd 5 mc 3) = (mc 3) from (zrd_in (n := 5) (k := 3) (f := mc) (by omega) (by omega))]
            refine lv_i2l (v := ((mc 3)).toInt64) hx hb dX4_digestOfKnowledge_94 rfl ?_
            refine zcl (zrS (As := [.long (zmx (zmx (zdP pt pm pl (zdK kt km kl d 26) 676) (((mc 1)).toInt64)) (((mc 2)).toInt64)), .long (((mc 3)).toInt64)]) (rest := []) ⟨hx, hb, hml, hown, hts⟩ (zS hP hD hK hE hB hS) (c_X4_mixed  ) (va_cwS 2 hts gX4_digestOfKnowledge_X4_mixed rfl rfl rfl hds_X4_mixed ⟨Nat.le_of_ble_eq_true rfl, Nat.le_of_ble_eq_true rfl⟩) rfl rfl hl.1 rfl (lv_room (Nat.le_of_ble_eq_true rfl)) dX4_digestOfKnowledge_95 ⟨Nat.le_of_ble_eq_true rfl, Nat.le_of_ble_eq_true rfl⟩) hS (fun H locs hP hD hS => ?_)
            have hP : va_P D vwCl (zWT cI cJ h (n, L) (kt, km, kl) (pt, pm, pl) (nu, le, ow, fo, run, wc, lc, tr, cl, tm, ms) (yl, yc, yt, co, pa, su, sc) mc ++ R) _ := hP
            have hD : va_D (zAb B) (zWT cI cJ h (n, L) (kt, km, kl) (pt, pm, pl) (nu, le, ow, fo, run, wc, lc, tr, cl, tm, ms) (yl, yc, yt, co, pa, su, sc) mc ++ R) := hD
            refine lv_lstore_n (lv' := [(3, .long (zmx (zmx (zmx (zdP pt pm pl (zdK kt km kl d 26) 676) (((mc 1)).toInt64)) (((mc 2)).toInt64)) (((mc 3)).toInt64))), (5, .int 3), (0, .ref (h 0)), (1, .long d)]) hx hb dX4_digestOfKnowledge_98 rfl hl (by decide) rfl (fun ls hl => ?_)
            refine lv_iinc (v := 4) (lv' := [(5, .int 4), (3, .long (zmx (zmx (zmx (zdP pt pm pl (zdK kt km kl d 26) 676) (((mc 1)).toInt64)) (((mc 2)).toInt64)) (((mc 3)).toInt64))), (0, .ref (h 0)), (1, .long d)]) hx hb dX4_digestOfKnowledge_99 hl (k := 1) rfl (by decide) (by decide) rfl (fun ls hl => ?_)
            refine lv_goto (tgt := 78) hx hb dX4_digestOfKnowledge_102 (by decide) ?_
            refine lv_iload hx hb dX4_digestOfKnowledge_78 (lv_at hl 0 rfl) ?_
            refine lv_iconst (v := 4) hx hb dX4_digestOfKnowledge_80 (by decide) ?_
            refine lv_icmp_gt (tgt := 105) hx hb dX4_digestOfKnowledge_81 (by decide) (fun c_6 => ?_) (fun c_6 => ?_)
            · skip
              exfalso; first | omega | (revert c_6; decide) | (exact absurd rfl c_6) | simp_all
            · skip
              refine lv_lload_n hx hb dX4_digestOfKnowledge_84 rfl (lv_at hl 1 rfl) ?_
              refine lv_aload_n hx hb dX4_digestOfKnowledge_85 rfl (lv_at hl 2 rfl) ?_
              refine va_get (ci := 4) (v := .ref (h 20)) (C := RX4) (T := TX4) (N := 6) hx hb hts hinX4 hown hK hP 0 rfl rfl 5 (by decide) (hts (.fieldLink RX4 42 "TypingTutor" "mistakeCounts" "[I") (List.mem_of_getElem? (i := 3) rfl)) (fun _ h9 => h9) rfl dX4_digestOfKnowledge_86 ?_
              refine lv_iload hx hb dX4_digestOfKnowledge_89 (lv_at hl 0 rfl) ?_
              refine zci (zrS (As := [.ref (h 20), .int 4]) (rest := [.long (zmx (zmx (zmx (zdP pt pm pl (zdK kt km kl d 26) 676) (((mc 1)).toInt64)) (((mc 2)).toInt64)) (((mc 3)).toInt64))]) ⟨hx, hb, hml, hown, hts⟩ (zS hP hD hK hE hB hS) (c_X4_read (q0 := 20) rfl (by omega)) (va_cwS 2 hts gX4_digestOfKnowledge_X4_read rfl rfl rfl hds_X4_read ⟨Nat.le_of_ble_eq_true rfl, Nat.le_of_ble_eq_true rfl⟩) rfl rfl hl.1 rfl (lv_room (Nat.le_of_ble_eq_true rfl)) dX4_digestOfKnowledge_91 ⟨Nat.le_of_ble_eq_true rfl, Nat.le_of_ble_eq_true rfl⟩) hS (fun H locs hP hD hS => ?_)
              have hP : va_P D vwCl (zWT cI cJ h (n, L) (kt, km, kl) (pt, pm, pl) (nu, le, ow, fo, run, wc, lc, tr, cl, tm, ms) (yl, yc, yt, co, pa, su, sc) mc ++ R) _ := hP
              have hD : va_D (zAb B) (zWT cI cJ h (n, L) (kt, km, kl) (pt, pm, pl) (nu, le, ow, fo, run, wc, lc, tr, cl, tm, ms) (yl, yc, yt, co, pa, su, sc) mc ++ R) := hD
              rw [show (zrd 5 mc 4) = (mc 4) from (zrd_in (n := 5) (k := 4) (f := mc) (by omega) (by omega))]
              refine lv_i2l (v := ((mc 4)).toInt64) hx hb dX4_digestOfKnowledge_94 rfl ?_
              refine zcl (zrS (As := [.long (zmx (zmx (zmx (zdP pt pm pl (zdK kt km kl d 26) 676) (((mc 1)).toInt64)) (((mc 2)).toInt64)) (((mc 3)).toInt64)), .long (((mc 4)).toInt64)]) (rest := []) ⟨hx, hb, hml, hown, hts⟩ (zS hP hD hK hE hB hS) (c_X4_mixed  ) (va_cwS 2 hts gX4_digestOfKnowledge_X4_mixed rfl rfl rfl hds_X4_mixed ⟨Nat.le_of_ble_eq_true rfl, Nat.le_of_ble_eq_true rfl⟩) rfl rfl hl.1 rfl (lv_room (Nat.le_of_ble_eq_true rfl)) dX4_digestOfKnowledge_95 ⟨Nat.le_of_ble_eq_true rfl, Nat.le_of_ble_eq_true rfl⟩) hS (fun H locs hP hD hS => ?_)
              have hP : va_P D vwCl (zWT cI cJ h (n, L) (kt, km, kl) (pt, pm, pl) (nu, le, ow, fo, run, wc, lc, tr, cl, tm, ms) (yl, yc, yt, co, pa, su, sc) mc ++ R) _ := hP
              have hD : va_D (zAb B) (zWT cI cJ h (n, L) (kt, km, kl) (pt, pm, pl) (nu, le, ow, fo, run, wc, lc, tr, cl, tm, ms) (yl, yc, yt, co, pa, su, sc) mc ++ R) := hD
              refine lv_lstore_n (lv' := [(3, .long (zmx (zmx (zmx (zmx (zdP pt pm pl (zdK kt km kl d 26) 676) (((mc 1)).toInt64)) (((mc 2)).toInt64)) (((mc 3)).toInt64)) (((mc 4)).toInt64))), (5, .int 4), (0, .ref (h 0)), (1, .long d)]) hx hb dX4_digestOfKnowledge_98 rfl hl (by decide) rfl (fun ls hl => ?_)
              refine lv_iinc (v := 5) (lv' := [(5, .int 5), (3, .long (zmx (zmx (zmx (zmx (zdP pt pm pl (zdK kt km kl d 26) 676) (((mc 1)).toInt64)) (((mc 2)).toInt64)) (((mc 3)).toInt64)) (((mc 4)).toInt64))), (0, .ref (h 0)), (1, .long d)]) hx hb dX4_digestOfKnowledge_99 hl (k := 1) rfl (by decide) (by decide) rfl (fun ls hl => ?_)
              refine lv_goto (tgt := 78) hx hb dX4_digestOfKnowledge_102 (by decide) ?_
              refine lv_iload hx hb dX4_digestOfKnowledge_78 (lv_at hl 0 rfl) ?_
              refine lv_iconst (v := 4) hx hb dX4_digestOfKnowledge_80 (by decide) ?_
              refine lv_icmp_gt (tgt := 105) hx hb dX4_digestOfKnowledge_81 (by decide) (fun c_7 => ?_) (fun c_7 => ?_)
              · skip
                refine lv_lload_n hx hb dX4_digestOfKnowledge_105 rfl (lv_at hl 1 rfl) ?_
                exact W.lret (v := (zmx (zmx (zmx (zmx (zdP pt pm pl (zdK kt km kl d 26) 676) (((mc 1)).toInt64)) (((mc 2)).toInt64)) (((mc 3)).toInt64)) (((mc 4)).toInt64))) hx hb hr (fun t ht hW => ⟨⟨_, (), rfl, rfl, by rw [ht]; exact hP, hD⟩, hS.F ht⟩) hS.2.2 dX4_digestOfKnowledge_106
              · skip
                exfalso; first | omega | (revert c_7; decide) | (exact absurd rfl c_7) | simp_all
    · skip
      have c_2 : ¬ 676 ≤ j := fun hh => c_2 ((nI_leI (a := 676) (b := j) (by omega) (by omega)).mpr hh)
      refine lv_aload_n hx hb dX4_digestOfKnowledge_40 rfl (lv_at hl 2 rfl) ?_
      refine va_get (ci := 4) (v := .ref (h 7)) (C := RX4) (T := TX4) (N := 6) hx hb hts hinX4 hown hK hP 0 rfl rfl 2 (by decide) (hts (.fieldLink RX4 25 "TypingTutor" "pairs" "LTypingTutor$Knowledge;") (List.mem_of_getElem? (i := 2) rfl)) (fun _ h9 => h9) rfl dX4_digestOfKnowledge_41 ?_
      refine lv_iload hx hb dX4_digestOfKnowledge_44 (lv_at hl 0 rfl) ?_
      refine zci (zrV (As := [.int (nI j)]) (rest := []) ⟨hx, hb, hml, hown, hts⟩ (zV 7 hP hD hK hE hB hS rfl rfl) (c_X1_triesOf_p  ) (cwV 1 hts gX4_digestOfKnowledge_X1_triesOf rfl rfl rfl hdv_X1_triesOf ⟨Nat.le_of_ble_eq_true rfl, Nat.le_of_ble_eq_true rfl⟩) rfl rfl hl.1 rfl (lv_room (Nat.le_of_ble_eq_true rfl)) dX4_digestOfKnowledge_46 ⟨Nat.le_of_ble_eq_true rfl, Nat.le_of_ble_eq_true rfl⟩) hS (fun H locs hP hD hS => ?_)
      have hP : va_P D vwCl (zWT cI cJ h (n, L) (kt, km, kl) (pt, pm, pl) (nu, le, ow, fo, run, wc, lc, tr, cl, tm, ms) (yl, yc, yt, co, pa, su, sc) mc ++ R) _ := hP
      have hD : va_D (zAb B) (zWT cI cJ h (n, L) (kt, km, kl) (pt, pm, pl) (nu, le, ow, fo, run, wc, lc, tr, cl, tm, ms) (yl, yc, yt, co, pa, su, sc) mc ++ R) := hD
      rw [show (zrd 676 pt (nI j)) = (pt j) from zrd_in (by omega) (by omega)]
      refine lv_if_le (tgt := 69) hx hb dX4_digestOfKnowledge_49 (by decide) (fun c_8 => ?_) (fun c_8 => ?_)
      · skip
        refine lv_iinc (v := (nI (j + 1))) (lv' := [(5, .int (nI (j + 1))), (3, .long (zdP pt pm pl (zdK kt km kl d 26) j)), (0, .ref (h 0)), (1, .long d)]) hx hb dX4_digestOfKnowledge_69 hl (k := 0) rfl (nI_add j 1) (by decide) rfl (fun ls hl => ?_)
        refine lv_goto (tgt := 32) hx hb dX4_digestOfKnowledge_72 (by decide) ?_
        exact ih (j + 1, (zdP pt pm pl (zdK kt km kl d 26) j)) (⟨by omega, (if_pos (zle0 (hpt j (by omega)) c_8)).symm⟩) (by omega) _ _ _ hP hD hS (lv_sub hl [0, 1, 2, 3] rfl)
      · skip
        refine lv_lload_n hx hb dX4_digestOfKnowledge_52 rfl (lv_at hl 1 rfl) ?_
        refine lv_iload hx hb dX4_digestOfKnowledge_53 (lv_at hl 0 rfl) ?_
        refine lv_i2l (v := ((nI j)).toInt64) hx hb dX4_digestOfKnowledge_55 rfl ?_
        refine zcl (zrS (As := [.long (zdP pt pm pl (zdK kt km kl d 26) j), .long (((nI j)).toInt64)]) (rest := []) ⟨hx, hb, hml, hown, hts⟩ (zS hP hD hK hE hB hS) (c_X4_mixed  ) (va_cwS 2 hts gX4_digestOfKnowledge_X4_mixed rfl rfl rfl hds_X4_mixed ⟨Nat.le_of_ble_eq_true rfl, Nat.le_of_ble_eq_true rfl⟩) rfl rfl hl.1 rfl (lv_room (Nat.le_of_ble_eq_true rfl)) dX4_digestOfKnowledge_56 ⟨Nat.le_of_ble_eq_true rfl, Nat.le_of_ble_eq_true rfl⟩) hS (fun H locs hP hD hS => ?_)
        have hP : va_P D vwCl (zWT cI cJ h (n, L) (kt, km, kl) (pt, pm, pl) (nu, le, ow, fo, run, wc, lc, tr, cl, tm, ms) (yl, yc, yt, co, pa, su, sc) mc ++ R) _ := hP
        have hD : va_D (zAb B) (zWT cI cJ h (n, L) (kt, km, kl) (pt, pm, pl) (nu, le, ow, fo, run, wc, lc, tr, cl, tm, ms) (yl, yc, yt, co, pa, su, sc) mc ++ R) := hD
        refine lv_aload_n hx hb dX4_digestOfKnowledge_59 rfl (lv_at hl 2 rfl) ?_
        refine va_get (ci := 4) (v := .ref (h 7)) (C := RX4) (T := TX4) (N := 6) hx hb hts hinX4 hown hK hP 0 rfl rfl 2 (by decide) (hts (.fieldLink RX4 25 "TypingTutor" "pairs" "LTypingTutor$Knowledge;") (List.mem_of_getElem? (i := 2) rfl)) (fun _ h9 => h9) rfl dX4_digestOfKnowledge_60 ?_
        refine lv_iload hx hb dX4_digestOfKnowledge_63 (lv_at hl 0 rfl) ?_
        refine zcl (zrS (As := [.long (zmx (zdP pt pm pl (zdK kt km kl d 26) j) (((nI j)).toInt64)), .ref (h 7), .int (nI j)]) (rest := []) ⟨hx, hb, hml, hown, hts⟩ (zS hP hD hK hE hB hS) (c_X4_digestOfRecord_p (k := j) (by omega)) (va_cwS 3 hts gX4_digestOfKnowledge_X4_digestOfRecord rfl rfl rfl hds_X4_digestOfRecord ⟨Nat.le_of_ble_eq_true rfl, Nat.le_of_ble_eq_true rfl⟩) rfl rfl hl.1 rfl (lv_room (Nat.le_of_ble_eq_true rfl)) dX4_digestOfKnowledge_65 ⟨Nat.le_of_ble_eq_true rfl, Nat.le_of_ble_eq_true rfl⟩) hS (fun H locs hP hD hS => ?_)
        have hP : va_P D vwCl (zWT cI cJ h (n, L) (kt, km, kl) (pt, pm, pl) (nu, le, ow, fo, run, wc, lc, tr, cl, tm, ms) (yl, yc, yt, co, pa, su, sc) mc ++ R) _ := hP
        have hD : va_D (zAb B) (zWT cI cJ h (n, L) (kt, km, kl) (pt, pm, pl) (nu, le, ow, fo, run, wc, lc, tr, cl, tm, ms) (yl, yc, yt, co, pa, su, sc) mc ++ R) := hD
        refine lv_lstore_n (lv' := [(3, .long (zdr (zmx (zdP pt pm pl (zdK kt km kl d 26) j) (((nI j)).toInt64)) (pt j) (pm j) (pl j))), (5, .int (nI j)), (0, .ref (h 0)), (1, .long d)]) hx hb dX4_digestOfKnowledge_68 rfl hl (by decide) rfl (fun ls hl => ?_)
        refine lv_iinc (v := (nI (j + 1))) (lv' := [(5, .int (nI (j + 1))), (3, .long (zdr (zmx (zdP pt pm pl (zdK kt km kl d 26) j) (((nI j)).toInt64)) (pt j) (pm j) (pl j))), (0, .ref (h 0)), (1, .long d)]) hx hb dX4_digestOfKnowledge_69 hl (k := 1) rfl (nI_add j 1) (by decide) rfl (fun ls hl => ?_)
        refine lv_goto (tgt := 32) hx hb dX4_digestOfKnowledge_72 (by decide) ?_
        exact ih (j + 1, (zdr (zmx (zdP pt pm pl (zdK kt km kl d 26) j) (((nI j)).toInt64)) (pt j) (pm j) (pl j))) (⟨by omega, (if_neg (znle0 c_8)).symm⟩) (by omega) _ _ _ hP hD hS (lv_sub hl [0, 1, 2, 3] rfl)
  · skip
    have c_1 : ¬ 26 ≤ j := fun hh => c_1 ((nI_leI (a := 26) (b := j) (by omega) (by omega)).mpr hh)
    refine lv_lload_n hx hb dX4_digestOfKnowledge_12 rfl (lv_at hl 1 rfl) ?_
    refine lv_aload_n hx hb dX4_digestOfKnowledge_13 rfl (lv_at hl 2 rfl) ?_
    refine va_get (ci := 4) (v := .ref (h 3)) (C := RX4) (T := TX4) (N := 6) hx hb hts hinX4 hown hK hP 0 rfl rfl 1 (by decide) (hts (.fieldLink RX4 21 "TypingTutor" "keys" "LTypingTutor$Knowledge;") (List.mem_of_getElem? (i := 1) rfl)) (fun _ h9 => h9) rfl dX4_digestOfKnowledge_14 ?_
    refine lv_iload hx hb dX4_digestOfKnowledge_17 (lv_at hl 0 rfl) ?_
    refine zcl (zrS (As := [.long (zdK kt km kl d j), .ref (h 3), .int (nI j)]) (rest := []) ⟨hx, hb, hml, hown, hts⟩ (zS hP hD hK hE hB hS) (c_X4_digestOfRecord_k (k := j) (by omega)) (va_cwS 3 hts gX4_digestOfKnowledge_X4_digestOfRecord rfl rfl rfl hds_X4_digestOfRecord ⟨Nat.le_of_ble_eq_true rfl, Nat.le_of_ble_eq_true rfl⟩) rfl rfl hl.1 rfl (lv_room (Nat.le_of_ble_eq_true rfl)) dX4_digestOfKnowledge_19 ⟨Nat.le_of_ble_eq_true rfl, Nat.le_of_ble_eq_true rfl⟩) hS (fun H locs hP hD hS => ?_)
    have hP : va_P D vwCl (zWT cI cJ h (n, L) (kt, km, kl) (pt, pm, pl) (nu, le, ow, fo, run, wc, lc, tr, cl, tm, ms) (yl, yc, yt, co, pa, su, sc) mc ++ R) _ := hP
    have hD : va_D (zAb B) (zWT cI cJ h (n, L) (kt, km, kl) (pt, pm, pl) (nu, le, ow, fo, run, wc, lc, tr, cl, tm, ms) (yl, yc, yt, co, pa, su, sc) mc ++ R) := hD
    refine lv_lstore_n (lv' := [(3, .long (zdr (zdK kt km kl d j) (kt j) (km j) (kl j))), (5, .int (nI j)), (0, .ref (h 0)), (1, .long d)]) hx hb dX4_digestOfKnowledge_22 rfl hl (by decide) rfl (fun ls hl => ?_)
    refine lv_iinc (v := (nI (j + 1))) (lv' := [(5, .int (nI (j + 1))), (3, .long (zdr (zdK kt km kl d j) (kt j) (km j) (kl j))), (0, .ref (h 0)), (1, .long d)]) hx hb dX4_digestOfKnowledge_23 hl (k := 1) rfl (nI_add j 1) (by decide) rfl (fun ls hl => ?_)
    refine lv_goto (tgt := 5) hx hb dX4_digestOfKnowledge_26 (by decide) ?_
    exact ih (j + 1, (zdr (zdK kt km kl d j) (kt j) (km j) (kl j))) (⟨by omega, rfl⟩) (by omega) _ _ _ hP hD hS (lv_sub hl [0, 1, 2, 3] rfl)

set_option maxHeartbeats 1000000 in
set_option maxRecDepth 100000 in
theorem c_X4_digestOfLesson {l : Launch} {B kr kp : Nat} {D : va_G} {cI cJ cZ : ClassId} {h : Nat → Nat} {R : va_W} {n : Nat} {L : Nat → Int64} {kt : Nat → Int32} {km : Nat → Int32} {kl : Nat → Int32} {pt : Nat → Int32} {pm : Nat → Int32} {pl : Nat → Int32} {nu : Nat → Int32} {le : Nat → Int32} {ow : Nat → Int32} {fo : Nat → Int32} {run : Bool} {wc : Nat} {lc : Nat} {tr : Nat} {cl : Nat} {tm : Nat} {ms : Nat} {yl : Nat → Int32} {yc : Nat → Int32} {yt : Nat → Int32} {co : Nat} {pa : Int32} {su : Nat} {sc : Nat} {mc : Nat → Int32} {d : Int64}   (hwc : wc ≤ 6) : Met l yX4_digestOfLesson wsX4_digestOfLesson ({ frames := 2, cells := 0, slots := 0, locals := 42 }) (zPc B kr kp D (zTy cI cJ cZ) (zWT cI cJ h (n, L) (kt, km, kl) (pt, pm, pl) (nu, le, ow, fo, run, wc, lc, tr, cl, tm, ms) (yl, yc, yt, co, pa, su, sc) mc ++ R) [.ref (h 0), .long d]) (zQl B D (zWT cI cJ h (n, L) (kt, km, kl) (pt, pm, pl) (nu, le, ow, fo, run, wc, lc, tr, cl, tm, ms) (yl, yc, yt, co, pa, su, sc) mc ++ R) (zdL run nu wc tr d)) 0 0 (zAb B) := by
  cases run with
  | true =>
    refine Met.ofW (cc := cX4_digestOfLesson) (maxL := 6) (ret := (some .long)) (by decide) rfl ?_
    intro p e s m args below meth c s₁ B0 hml hv
    obtain ⟨rfl, hP, hD, hK, hE, hB⟩ := hv
    have hx := B0.exec
    have hb := B0.bytes
    have hr := B0.returns
    have hts := atoms_spec (ws := wsX4_digestOfLesson) B0.pre
    have hown : s.vm.findClass RX4 = some m.cls := findClass_of_methodNamed B0.named
    have hlocks := B0.notSynchronized
    have hA : ∀ q : Nat, s.heap.size ≤ q → zAb B q := fun q hq => Nat.le_trans hB hq
    have hS : va_S (zAb B) s.heap s.heap [] := va_S.rf
    have hgr : s.heap.size ≤ s.heap.size := Nat.le_refl _
    have hl := lv_entry ([.ref (h 0), .long d]) (n := 6) (Nat.le_of_ble_eq_true rfl)
    rw [lg_entry_eq]
    generalize (lg_sl ([.ref (h 0), .long d]) ++ List.replicate (6 - (lg_sl ([.ref (h 0), .long d])).length) Slot.unset).toArray = ls at hl ⊢
    have hl : lv_has ls 6 [(0, .ref (h 0)), (1, .long d)] := hl
    have hinX4 : ∀ w ∈ wsX40, w ∈ wsX4_digestOfLesson := fun _ h => List.mem_cons_of_mem _ (List.mem_append_left _ (List.mem_append_right _ h))
    have hP : va_P D vwCl (zWT cI cJ h (n, L) (kt, km, kl) (pt, pm, pl) (nu, le, ow, fo, true, wc, lc, tr, cl, tm, ms) (yl, yc, yt, co, pa, su, sc) mc ++ R) s.heap := hP
    have hD : va_D (zAb B) (zWT cI cJ h (n, L) (kt, km, kl) (pt, pm, pl) (nu, le, ow, fo, true, wc, lc, tr, cl, tm, ms) (yl, yc, yt, co, pa, su, sc) mc ++ R) := hD
    refine lv_aload_n hx hb dX4_digestOfLesson_0 rfl (lv_at hl 0 rfl) ?_
    refine va_get (ci := 4) (v := .ref (h 11)) (C := RX4) (T := TX4) (N := 6) hx hb hts hinX4 hown hK hP 0 rfl rfl 3 (by decide) (hts (.fieldLink RX4 31 "TypingTutor" "current" "LTypingTutor$Lesson;") (List.mem_of_getElem? (i := 1) rfl)) (fun _ h9 => h9) rfl dX4_digestOfLesson_1 ?_
    refine zci (zrV (As := []) (rest := []) ⟨hx, hb, hml, hown, hts⟩ (zV 11 hP hD hK hE hB hS rfl rfl) (c_X2_isRunning  ) (cwV 0 hts gX4_digestOfLesson_X2_isRunning rfl rfl rfl hdv_X2_isRunning ⟨Nat.le_of_ble_eq_true rfl, Nat.le_of_ble_eq_true rfl⟩) rfl rfl hl.1 rfl (lv_room (Nat.le_of_ble_eq_true rfl)) dX4_digestOfLesson_4 ⟨Nat.le_of_ble_eq_true rfl, Nat.le_of_ble_eq_true rfl⟩) hS (fun H locs hP hD hS => ?_)
    have hP : va_P D vwCl (zWT cI cJ h (n, L) (kt, km, kl) (pt, pm, pl) (nu, le, ow, fo, true, wc, lc, tr, cl, tm, ms) (yl, yc, yt, co, pa, su, sc) mc ++ R) _ := hP
    have hD : va_D (zAb B) (zWT cI cJ h (n, L) (kt, km, kl) (pt, pm, pl) (nu, le, ow, fo, true, wc, lc, tr, cl, tm, ms) (yl, yc, yt, co, pa, su, sc) mc ++ R) := hD
    refine lv_if_ne (tgt := 16) hx hb dX4_digestOfLesson_7 (by decide) (fun c_1 => ?_) (fun c_1 => ?_)
    · skip
      refine lv_lload_n hx hb dX4_digestOfLesson_16 rfl (lv_at hl 1 rfl) ?_
      refine lv_lconst (v := 1) hx hb dX4_digestOfLesson_17 (by decide) ?_
      refine zcl (zrS (As := [.long d, .long 1]) (rest := []) ⟨hx, hb, hml, hown, hts⟩ (zS hP hD hK hE hB hS) (c_X4_mixed  ) (va_cwS 2 hts gX4_digestOfLesson_X4_mixed rfl rfl rfl hds_X4_mixed ⟨Nat.le_of_ble_eq_true rfl, Nat.le_of_ble_eq_true rfl⟩) rfl rfl hl.1 rfl (lv_room (Nat.le_of_ble_eq_true rfl)) dX4_digestOfLesson_18 ⟨Nat.le_of_ble_eq_true rfl, Nat.le_of_ble_eq_true rfl⟩) hS (fun H locs hP hD hS => ?_)
      have hP : va_P D vwCl (zWT cI cJ h (n, L) (kt, km, kl) (pt, pm, pl) (nu, le, ow, fo, true, wc, lc, tr, cl, tm, ms) (yl, yc, yt, co, pa, su, sc) mc ++ R) _ := hP
      have hD : va_D (zAb B) (zWT cI cJ h (n, L) (kt, km, kl) (pt, pm, pl) (nu, le, ow, fo, true, wc, lc, tr, cl, tm, ms) (yl, yc, yt, co, pa, su, sc) mc ++ R) := hD
      refine lv_aload_n hx hb dX4_digestOfLesson_21 rfl (lv_at hl 0 rfl) ?_
      refine va_get (ci := 4) (v := .ref (h 11)) (C := RX4) (T := TX4) (N := 6) hx hb hts hinX4 hown hK hP 0 rfl rfl 3 (by decide) (hts (.fieldLink RX4 31 "TypingTutor" "current" "LTypingTutor$Lesson;") (List.mem_of_getElem? (i := 1) rfl)) (fun _ h9 => h9) rfl dX4_digestOfLesson_22 ?_
      refine zci (zrV (As := []) (rest := [.long (zmx d 1)]) ⟨hx, hb, hml, hown, hts⟩ (zV 11 hP hD hK hE hB hS rfl rfl) (c_X2_wordTotal  ) (cwV 0 hts gX4_digestOfLesson_X2_wordTotal rfl rfl rfl hdv_X2_wordTotal ⟨Nat.le_of_ble_eq_true rfl, Nat.le_of_ble_eq_true rfl⟩) rfl rfl hl.1 rfl (lv_room (Nat.le_of_ble_eq_true rfl)) dX4_digestOfLesson_25 ⟨Nat.le_of_ble_eq_true rfl, Nat.le_of_ble_eq_true rfl⟩) hS (fun H locs hP hD hS => ?_)
      have hP : va_P D vwCl (zWT cI cJ h (n, L) (kt, km, kl) (pt, pm, pl) (nu, le, ow, fo, true, wc, lc, tr, cl, tm, ms) (yl, yc, yt, co, pa, su, sc) mc ++ R) _ := hP
      have hD : va_D (zAb B) (zWT cI cJ h (n, L) (kt, km, kl) (pt, pm, pl) (nu, le, ow, fo, true, wc, lc, tr, cl, tm, ms) (yl, yc, yt, co, pa, su, sc) mc ++ R) := hD
      refine lv_i2l (v := ((nI wc)).toInt64) hx hb dX4_digestOfLesson_28 rfl ?_
      refine zcl (zrS (As := [.long (zmx d 1), .long (((nI wc)).toInt64)]) (rest := []) ⟨hx, hb, hml, hown, hts⟩ (zS hP hD hK hE hB hS) (c_X4_mixed  ) (va_cwS 2 hts gX4_digestOfLesson_X4_mixed rfl rfl rfl hds_X4_mixed ⟨Nat.le_of_ble_eq_true rfl, Nat.le_of_ble_eq_true rfl⟩) rfl rfl hl.1 rfl (lv_room (Nat.le_of_ble_eq_true rfl)) dX4_digestOfLesson_29 ⟨Nat.le_of_ble_eq_true rfl, Nat.le_of_ble_eq_true rfl⟩) hS (fun H locs hP hD hS => ?_)
      have hP : va_P D vwCl (zWT cI cJ h (n, L) (kt, km, kl) (pt, pm, pl) (nu, le, ow, fo, true, wc, lc, tr, cl, tm, ms) (yl, yc, yt, co, pa, su, sc) mc ++ R) _ := hP
      have hD : va_D (zAb B) (zWT cI cJ h (n, L) (kt, km, kl) (pt, pm, pl) (nu, le, ow, fo, true, wc, lc, tr, cl, tm, ms) (yl, yc, yt, co, pa, su, sc) mc ++ R) := hD
      refine lv_lstore_n (lv' := [(3, .long (zmx (zmx d 1) (((nI wc)).toInt64))), (0, .ref (h 0)), (1, .long d)]) hx hb dX4_digestOfLesson_32 rfl hl (by decide) rfl (fun ls hl => ?_)
      refine lv_iconst (v := 0) hx hb dX4_digestOfLesson_33 (by decide) ?_
      refine lv_istore (lv' := [(5, .int 0), (3, .long (zmx (zmx d 1) (((nI wc)).toInt64))), (0, .ref (h 0)), (1, .long d)]) hx hb dX4_digestOfLesson_34 hl (by decide) rfl (fun ls hl => ?_)
      refine zloop (σ := (Nat) × (Int64)) (nL := 6) (fun x9 => (zWT cI cJ h (n, L) (kt, km, kl) (pt, pm, pl) (nu, le, ow, fo, true, wc, lc, tr, cl, tm, ms) (yl, yc, yt, co, pa, su, sc) mc ++ R)) (fun x9 => [(5, .int (nI x9.1)), (3, .long x9.2), (0, .ref (h 0)), (1, .long d)]) (fun x9 => []) (fun x9 => (x9.1 ≤ wc) ∧ x9.2 = zdN nu (zmx (zmx d 1) (nI wc).toInt64) x9.1) (fun x9 => wc - x9.1) ?_ (0, zmx (zmx d 1) (nI wc).toInt64) (⟨by omega, rfl⟩) _ _ _ hP hD hS (lv_sub hl [0, 1, 2, 3] rfl)
      rintro ⟨j, z⟩ hI ih H locs ls hP hD hS hl
      try dsimp only at hI ih hP hD hS hl ⊢
      obtain ⟨hI, rfl⟩ := hI
      refine lv_iload hx hb dX4_digestOfLesson_36 (lv_at hl 0 rfl) ?_
      refine lv_aload_n hx hb dX4_digestOfLesson_38 rfl (lv_at hl 2 rfl) ?_
      refine va_get (ci := 4) (v := .ref (h 11)) (C := RX4) (T := TX4) (N := 6) hx hb hts hinX4 hown hK hP 0 rfl rfl 3 (by decide) (hts (.fieldLink RX4 31 "TypingTutor" "current" "LTypingTutor$Lesson;") (List.mem_of_getElem? (i := 1) rfl)) (fun _ h9 => h9) rfl dX4_digestOfLesson_39 ?_
      refine zci (zrV (As := []) (rest := [.int (nI j)]) ⟨hx, hb, hml, hown, hts⟩ (zV 11 hP hD hK hE hB hS rfl rfl) (c_X2_wordTotal  ) (cwV 0 hts gX4_digestOfLesson_X2_wordTotal rfl rfl rfl hdv_X2_wordTotal ⟨Nat.le_of_ble_eq_true rfl, Nat.le_of_ble_eq_true rfl⟩) rfl rfl hl.1 rfl (lv_room (Nat.le_of_ble_eq_true rfl)) dX4_digestOfLesson_42 ⟨Nat.le_of_ble_eq_true rfl, Nat.le_of_ble_eq_true rfl⟩) hS (fun H locs hP hD hS => ?_)
      have hP : va_P D vwCl (zWT cI cJ h (n, L) (kt, km, kl) (pt, pm, pl) (nu, le, ow, fo, true, wc, lc, tr, cl, tm, ms) (yl, yc, yt, co, pa, su, sc) mc ++ R) _ := hP
      have hD : va_D (zAb B) (zWT cI cJ h (n, L) (kt, km, kl) (pt, pm, pl) (nu, le, ow, fo, true, wc, lc, tr, cl, tm, ms) (yl, yc, yt, co, pa, su, sc) mc ++ R) := hD
      refine lv_icmp_ge (tgt := 69) hx hb dX4_digestOfLesson_45 (by decide) (fun c_2 => ?_) (fun c_2 => ?_)
      · skip
        have c_2 : wc ≤ j := (nI_leI (a := wc) (b := j) (by omega) (by omega)).mp c_2
        obtain rfl : wc = j := by omega
        refine lv_lload_n hx hb dX4_digestOfLesson_69 rfl (lv_at hl 1 rfl) ?_
        refine lv_aload_n hx hb dX4_digestOfLesson_70 rfl (lv_at hl 2 rfl) ?_
        refine va_get (ci := 4) (v := .ref (h 11)) (C := RX4) (T := TX4) (N := 6) hx hb hts hinX4 hown hK hP 0 rfl rfl 3 (by decide) (hts (.fieldLink RX4 31 "TypingTutor" "current" "LTypingTutor$Lesson;") (List.mem_of_getElem? (i := 1) rfl)) (fun _ h9 => h9) rfl dX4_digestOfLesson_71 ?_
        refine zci (zrV (As := []) (rest := [.long (zdN nu (zmx (zmx d 1) (nI wc).toInt64) wc)]) ⟨hx, hb, hml, hown, hts⟩ (zV 11 hP hD hK hE hB hS rfl rfl) (c_X2_triedTotal  ) (cwV 0 hts gX4_digestOfLesson_X2_triedTotal rfl rfl rfl hdv_X2_triedTotal ⟨Nat.le_of_ble_eq_true rfl, Nat.le_of_ble_eq_true rfl⟩) rfl rfl hl.1 rfl (lv_room (Nat.le_of_ble_eq_true rfl)) dX4_digestOfLesson_74 ⟨Nat.le_of_ble_eq_true rfl, Nat.le_of_ble_eq_true rfl⟩) hS (fun H locs hP hD hS => ?_)
        have hP : va_P D vwCl (zWT cI cJ h (n, L) (kt, km, kl) (pt, pm, pl) (nu, le, ow, fo, true, wc, lc, tr, cl, tm, ms) (yl, yc, yt, co, pa, su, sc) mc ++ R) _ := hP
        have hD : va_D (zAb B) (zWT cI cJ h (n, L) (kt, km, kl) (pt, pm, pl) (nu, le, ow, fo, true, wc, lc, tr, cl, tm, ms) (yl, yc, yt, co, pa, su, sc) mc ++ R) := hD
        refine lv_i2l (v := ((nI tr)).toInt64) hx hb dX4_digestOfLesson_77 rfl ?_
        refine zcl (zrS (As := [.long (zdN nu (zmx (zmx d 1) (nI wc).toInt64) wc), .long (((nI tr)).toInt64)]) (rest := []) ⟨hx, hb, hml, hown, hts⟩ (zS hP hD hK hE hB hS) (c_X4_mixed  ) (va_cwS 2 hts gX4_digestOfLesson_X4_mixed rfl rfl rfl hds_X4_mixed ⟨Nat.le_of_ble_eq_true rfl, Nat.le_of_ble_eq_true rfl⟩) rfl rfl hl.1 rfl (lv_room (Nat.le_of_ble_eq_true rfl)) dX4_digestOfLesson_78 ⟨Nat.le_of_ble_eq_true rfl, Nat.le_of_ble_eq_true rfl⟩) hS (fun H locs hP hD hS => ?_)
        have hP : va_P D vwCl (zWT cI cJ h (n, L) (kt, km, kl) (pt, pm, pl) (nu, le, ow, fo, true, wc, lc, tr, cl, tm, ms) (yl, yc, yt, co, pa, su, sc) mc ++ R) _ := hP
        have hD : va_D (zAb B) (zWT cI cJ h (n, L) (kt, km, kl) (pt, pm, pl) (nu, le, ow, fo, true, wc, lc, tr, cl, tm, ms) (yl, yc, yt, co, pa, su, sc) mc ++ R) := hD
        exact W.lret (v := (zmx (zdN nu (zmx (zmx d 1) (nI wc).toInt64) wc) (((nI tr)).toInt64))) hx hb hr (fun t ht hW => ⟨⟨_, (), rfl, rfl, by rw [ht]; exact hP, hD⟩, hS.F ht⟩) hS.2.2 dX4_digestOfLesson_81
      · skip
        have c_2 : ¬ wc ≤ j := fun hh => c_2 ((nI_leI (a := wc) (b := j) (by omega) (by omega)).mpr hh)
        refine lv_lload_n hx hb dX4_digestOfLesson_48 rfl (lv_at hl 1 rfl) ?_
        refine lv_aload_n hx hb dX4_digestOfLesson_49 rfl (lv_at hl 2 rfl) ?_
        refine va_get (ci := 4) (v := .ref (h 11)) (C := RX4) (T := TX4) (N := 6) hx hb hts hinX4 hown hK hP 0 rfl rfl 3 (by decide) (hts (.fieldLink RX4 31 "TypingTutor" "current" "LTypingTutor$Lesson;") (List.mem_of_getElem? (i := 1) rfl)) (fun _ h9 => h9) rfl dX4_digestOfLesson_50 ?_
        refine lv_iload hx hb dX4_digestOfLesson_53 (lv_at hl 0 rfl) ?_
        refine zci (zrV (As := [.int (nI j)]) (rest := [.long (zdN nu (zmx (zmx d 1) (nI wc).toInt64) j)]) ⟨hx, hb, hml, hown, hts⟩ (zV 11 hP hD hK hE hB hS rfl rfl) (c_X2_numberAt (k := j) (by omega)) (cwV 1 hts gX4_digestOfLesson_X2_numberAt rfl rfl rfl hdv_X2_numberAt ⟨Nat.le_of_ble_eq_true rfl, Nat.le_of_ble_eq_true rfl⟩) rfl rfl hl.1 rfl (lv_room (Nat.le_of_ble_eq_true rfl)) dX4_digestOfLesson_55 ⟨Nat.le_of_ble_eq_true rfl, Nat.le_of_ble_eq_true rfl⟩) hS (fun H locs hP hD hS => ?_)
        have hP : va_P D vwCl (zWT cI cJ h (n, L) (kt, km, kl) (pt, pm, pl) (nu, le, ow, fo, true, wc, lc, tr, cl, tm, ms) (yl, yc, yt, co, pa, su, sc) mc ++ R) _ := hP
        have hD : va_D (zAb B) (zWT cI cJ h (n, L) (kt, km, kl) (pt, pm, pl) (nu, le, ow, fo, true, wc, lc, tr, cl, tm, ms) (yl, yc, yt, co, pa, su, sc) mc ++ R) := hD
        refine lv_i2l (v := ((nu j)).toInt64) hx hb dX4_digestOfLesson_58 rfl ?_
        refine zcl (zrS (As := [.long (zdN nu (zmx (zmx d 1) (nI wc).toInt64) j), .long (((nu j)).toInt64)]) (rest := []) ⟨hx, hb, hml, hown, hts⟩ (zS hP hD hK hE hB hS) (c_X4_mixed  ) (va_cwS 2 hts gX4_digestOfLesson_X4_mixed rfl rfl rfl hds_X4_mixed ⟨Nat.le_of_ble_eq_true rfl, Nat.le_of_ble_eq_true rfl⟩) rfl rfl hl.1 rfl (lv_room (Nat.le_of_ble_eq_true rfl)) dX4_digestOfLesson_59 ⟨Nat.le_of_ble_eq_true rfl, Nat.le_of_ble_eq_true rfl⟩) hS (fun H locs hP hD hS => ?_)
        have hP : va_P D vwCl (zWT cI cJ h (n, L) (kt, km, kl) (pt, pm, pl) (nu, le, ow, fo, true, wc, lc, tr, cl, tm, ms) (yl, yc, yt, co, pa, su, sc) mc ++ R) _ := hP
        have hD : va_D (zAb B) (zWT cI cJ h (n, L) (kt, km, kl) (pt, pm, pl) (nu, le, ow, fo, true, wc, lc, tr, cl, tm, ms) (yl, yc, yt, co, pa, su, sc) mc ++ R) := hD
        refine lv_lstore_n (lv' := [(3, .long (zmx (zdN nu (zmx (zmx d 1) (nI wc).toInt64) j) (((nu j)).toInt64))), (5, .int (nI j)), (0, .ref (h 0)), (1, .long d)]) hx hb dX4_digestOfLesson_62 rfl hl (by decide) rfl (fun ls hl => ?_)
        refine lv_iinc (v := (nI (j + 1))) (lv' := [(5, .int (nI (j + 1))), (3, .long (zmx (zdN nu (zmx (zmx d 1) (nI wc).toInt64) j) (((nu j)).toInt64))), (0, .ref (h 0)), (1, .long d)]) hx hb dX4_digestOfLesson_63 hl (k := 1) rfl (nI_add j 1) (by decide) rfl (fun ls hl => ?_)
        refine lv_goto (tgt := 36) hx hb dX4_digestOfLesson_66 (by decide) ?_
        exact ih (j + 1, (zmx (zdN nu (zmx (zmx d 1) (nI wc).toInt64) j) (((nu j)).toInt64))) (⟨by omega, rfl⟩) (by omega) _ _ _ hP hD hS (lv_sub hl [0, 1, 2, 3] rfl)
    · skip
      exfalso; first | omega | (revert c_1; decide) | (exact absurd rfl c_1) | simp_all
  | false =>
    refine Met.ofW (cc := cX4_digestOfLesson) (maxL := 6) (ret := (some .long)) (by decide) rfl ?_
    intro p e s m args below meth c s₁ B0 hml hv
    obtain ⟨rfl, hP, hD, hK, hE, hB⟩ := hv
    have hx := B0.exec
    have hb := B0.bytes
    have hr := B0.returns
    have hts := atoms_spec (ws := wsX4_digestOfLesson) B0.pre
    have hown : s.vm.findClass RX4 = some m.cls := findClass_of_methodNamed B0.named
    have hlocks := B0.notSynchronized
    have hA : ∀ q : Nat, s.heap.size ≤ q → zAb B q := fun q hq => Nat.le_trans hB hq
    have hS : va_S (zAb B) s.heap s.heap [] := va_S.rf
    have hgr : s.heap.size ≤ s.heap.size := Nat.le_refl _
    have hl := lv_entry ([.ref (h 0), .long d]) (n := 6) (Nat.le_of_ble_eq_true rfl)
    rw [lg_entry_eq]
    generalize (lg_sl ([.ref (h 0), .long d]) ++ List.replicate (6 - (lg_sl ([.ref (h 0), .long d])).length) Slot.unset).toArray = ls at hl ⊢
    have hl : lv_has ls 6 [(0, .ref (h 0)), (1, .long d)] := hl
    have hinX4 : ∀ w ∈ wsX40, w ∈ wsX4_digestOfLesson := fun _ h => List.mem_cons_of_mem _ (List.mem_append_left _ (List.mem_append_right _ h))
    have hP : va_P D vwCl (zWT cI cJ h (n, L) (kt, km, kl) (pt, pm, pl) (nu, le, ow, fo, false, wc, lc, tr, cl, tm, ms) (yl, yc, yt, co, pa, su, sc) mc ++ R) s.heap := hP
    have hD : va_D (zAb B) (zWT cI cJ h (n, L) (kt, km, kl) (pt, pm, pl) (nu, le, ow, fo, false, wc, lc, tr, cl, tm, ms) (yl, yc, yt, co, pa, su, sc) mc ++ R) := hD
    refine lv_aload_n hx hb dX4_digestOfLesson_0 rfl (lv_at hl 0 rfl) ?_
    refine va_get (ci := 4) (v := .ref (h 11)) (C := RX4) (T := TX4) (N := 6) hx hb hts hinX4 hown hK hP 0 rfl rfl 3 (by decide) (hts (.fieldLink RX4 31 "TypingTutor" "current" "LTypingTutor$Lesson;") (List.mem_of_getElem? (i := 1) rfl)) (fun _ h9 => h9) rfl dX4_digestOfLesson_1 ?_
    refine zci (zrV (As := []) (rest := []) ⟨hx, hb, hml, hown, hts⟩ (zV 11 hP hD hK hE hB hS rfl rfl) (c_X2_isRunning  ) (cwV 0 hts gX4_digestOfLesson_X2_isRunning rfl rfl rfl hdv_X2_isRunning ⟨Nat.le_of_ble_eq_true rfl, Nat.le_of_ble_eq_true rfl⟩) rfl rfl hl.1 rfl (lv_room (Nat.le_of_ble_eq_true rfl)) dX4_digestOfLesson_4 ⟨Nat.le_of_ble_eq_true rfl, Nat.le_of_ble_eq_true rfl⟩) hS (fun H locs hP hD hS => ?_)
    have hP : va_P D vwCl (zWT cI cJ h (n, L) (kt, km, kl) (pt, pm, pl) (nu, le, ow, fo, false, wc, lc, tr, cl, tm, ms) (yl, yc, yt, co, pa, su, sc) mc ++ R) _ := hP
    have hD : va_D (zAb B) (zWT cI cJ h (n, L) (kt, km, kl) (pt, pm, pl) (nu, le, ow, fo, false, wc, lc, tr, cl, tm, ms) (yl, yc, yt, co, pa, su, sc) mc ++ R) := hD
    refine lv_if_ne (tgt := 16) hx hb dX4_digestOfLesson_7 (by decide) (fun c_3 => ?_) (fun c_3 => ?_)
    · skip
      exfalso; first | omega | (revert c_3; decide) | (exact absurd rfl c_3) | simp_all
    · skip
      refine lv_lload_n hx hb dX4_digestOfLesson_10 rfl (lv_at hl 1 rfl) ?_
      refine lv_lconst (v := 0) hx hb dX4_digestOfLesson_11 (by decide) ?_
      refine zcl (zrS (As := [.long d, .long 0]) (rest := []) ⟨hx, hb, hml, hown, hts⟩ (zS hP hD hK hE hB hS) (c_X4_mixed  ) (va_cwS 2 hts gX4_digestOfLesson_X4_mixed rfl rfl rfl hds_X4_mixed ⟨Nat.le_of_ble_eq_true rfl, Nat.le_of_ble_eq_true rfl⟩) rfl rfl hl.1 rfl (lv_room (Nat.le_of_ble_eq_true rfl)) dX4_digestOfLesson_12 ⟨Nat.le_of_ble_eq_true rfl, Nat.le_of_ble_eq_true rfl⟩) hS (fun H locs hP hD hS => ?_)
      have hP : va_P D vwCl (zWT cI cJ h (n, L) (kt, km, kl) (pt, pm, pl) (nu, le, ow, fo, false, wc, lc, tr, cl, tm, ms) (yl, yc, yt, co, pa, su, sc) mc ++ R) _ := hP
      have hD : va_D (zAb B) (zWT cI cJ h (n, L) (kt, km, kl) (pt, pm, pl) (nu, le, ow, fo, false, wc, lc, tr, cl, tm, ms) (yl, yc, yt, co, pa, su, sc) mc ++ R) := hD
      exact W.lret (v := (zmx d 0)) hx hb hr (fun t ht hW => ⟨⟨_, (), rfl, rfl, by rw [ht]; exact hP, hD⟩, hS.F ht⟩) hS.2.2 dX4_digestOfLesson_15

set_option maxHeartbeats 1000000 in
set_option maxRecDepth 100000 in
theorem c_X4_digestOfHistory {l : Launch} {B kr kp : Nat} {D : va_G} {cI cJ cZ : ClassId} {h : Nat → Nat} {R : va_W} {n : Nat} {L : Nat → Int64} {kt : Nat → Int32} {km : Nat → Int32} {kl : Nat → Int32} {pt : Nat → Int32} {pm : Nat → Int32} {pl : Nat → Int32} {nu : Nat → Int32} {le : Nat → Int32} {ow : Nat → Int32} {fo : Nat → Int32} {run : Bool} {wc : Nat} {lc : Nat} {tr : Nat} {cl : Nat} {tm : Nat} {ms : Nat} {yl : Nat → Int32} {yc : Nat → Int32} {yt : Nat → Int32} {co : Nat} {pa : Int32} {su : Nat} {sc : Nat} {mc : Nat → Int32} {d : Int64}   (hco : co ≤ 256) : Met l yX4_digestOfHistory wsX4_digestOfHistory ({ frames := 3, cells := 0, slots := 0, locals := 65 }) (zPc B kr kp D (zTy cI cJ cZ) (zWT cI cJ h (n, L) (kt, km, kl) (pt, pm, pl) (nu, le, ow, fo, run, wc, lc, tr, cl, tm, ms) (yl, yc, yt, co, pa, su, sc) mc ++ R) [.ref (h 0), .long d]) (zQl B D (zWT cI cJ h (n, L) (kt, km, kl) (pt, pm, pl) (nu, le, ow, fo, run, wc, lc, tr, cl, tm, ms) (yl, yc, yt, co, pa, su, sc) mc ++ R) (zmx (zdH yl yc yt (zmx d (nI co).toInt64) co) pa.toInt64)) 0 0 (zAb B) := by
  refine Met.ofW (cc := cX4_digestOfHistory) (maxL := 7) (ret := (some .long)) (by decide) rfl ?_
  intro p e s m args below meth c s₁ B0 hml hv
  obtain ⟨rfl, hP, hD, hK, hE, hB⟩ := hv
  have hx := B0.exec
  have hb := B0.bytes
  have hr := B0.returns
  have hts := atoms_spec (ws := wsX4_digestOfHistory) B0.pre
  have hown : s.vm.findClass RX4 = some m.cls := findClass_of_methodNamed B0.named
  have hlocks := B0.notSynchronized
  have hA : ∀ q : Nat, s.heap.size ≤ q → zAb B q := fun q hq => Nat.le_trans hB hq
  have hS : va_S (zAb B) s.heap s.heap [] := va_S.rf
  have hgr : s.heap.size ≤ s.heap.size := Nat.le_refl _
  have hl := lv_entry ([.ref (h 0), .long d]) (n := 7) (Nat.le_of_ble_eq_true rfl)
  rw [lg_entry_eq]
  generalize (lg_sl ([.ref (h 0), .long d]) ++ List.replicate (7 - (lg_sl ([.ref (h 0), .long d])).length) Slot.unset).toArray = ls at hl ⊢
  have hl : lv_has ls 7 [(0, .ref (h 0)), (1, .long d)] := hl
  have hinX4 : ∀ w ∈ wsX40, w ∈ wsX4_digestOfHistory := fun _ h => List.mem_cons_of_mem _ (List.mem_append_left _ (List.mem_append_right _ h))
  have hP : va_P D vwCl (zWT cI cJ h (n, L) (kt, km, kl) (pt, pm, pl) (nu, le, ow, fo, run, wc, lc, tr, cl, tm, ms) (yl, yc, yt, co, pa, su, sc) mc ++ R) s.heap := hP
  have hD : va_D (zAb B) (zWT cI cJ h (n, L) (kt, km, kl) (pt, pm, pl) (nu, le, ow, fo, run, wc, lc, tr, cl, tm, ms) (yl, yc, yt, co, pa, su, sc) mc ++ R) := hD
  refine lv_lload_n hx hb dX4_digestOfHistory_0 rfl (lv_at hl 1 rfl) ?_
  refine lv_aload_n hx hb dX4_digestOfHistory_1 rfl (lv_at hl 0 rfl) ?_
  refine va_get (ci := 4) (v := .ref (h 16)) (C := RX4) (T := TX4) (N := 6) hx hb hts hinX4 hown hK hP 0 rfl rfl 4 (by decide) (hts (.fieldLink RX4 38 "TypingTutor" "past" "LTypingTutor$History;") (List.mem_of_getElem? (i := 1) rfl)) (fun _ h9 => h9) rfl dX4_digestOfHistory_2 ?_
  refine zci (zrV (As := []) (rest := [.long d]) ⟨hx, hb, hml, hown, hts⟩ (zV 16 hP hD hK hE hB hS rfl rfl) (c_X0_size  ) (cwV 0 hts gX4_digestOfHistory_X0_size rfl rfl rfl hdv_X0_size ⟨Nat.le_of_ble_eq_true rfl, Nat.le_of_ble_eq_true rfl⟩) rfl rfl hl.1 rfl (lv_room (Nat.le_of_ble_eq_true rfl)) dX4_digestOfHistory_5 ⟨Nat.le_of_ble_eq_true rfl, Nat.le_of_ble_eq_true rfl⟩) hS (fun H locs hP hD hS => ?_)
  have hP : va_P D vwCl (zWT cI cJ h (n, L) (kt, km, kl) (pt, pm, pl) (nu, le, ow, fo, run, wc, lc, tr, cl, tm, ms) (yl, yc, yt, co, pa, su, sc) mc ++ R) _ := hP
  have hD : va_D (zAb B) (zWT cI cJ h (n, L) (kt, km, kl) (pt, pm, pl) (nu, le, ow, fo, run, wc, lc, tr, cl, tm, ms) (yl, yc, yt, co, pa, su, sc) mc ++ R) := hD
  refine lv_i2l (v := ((nI co)).toInt64) hx hb dX4_digestOfHistory_8 rfl ?_
  refine zcl (zrS (As := [.long d, .long (((nI co)).toInt64)]) (rest := []) ⟨hx, hb, hml, hown, hts⟩ (zS hP hD hK hE hB hS) (c_X4_mixed  ) (va_cwS 2 hts gX4_digestOfHistory_X4_mixed rfl rfl rfl hds_X4_mixed ⟨Nat.le_of_ble_eq_true rfl, Nat.le_of_ble_eq_true rfl⟩) rfl rfl hl.1 rfl (lv_room (Nat.le_of_ble_eq_true rfl)) dX4_digestOfHistory_9 ⟨Nat.le_of_ble_eq_true rfl, Nat.le_of_ble_eq_true rfl⟩) hS (fun H locs hP hD hS => ?_)
  have hP : va_P D vwCl (zWT cI cJ h (n, L) (kt, km, kl) (pt, pm, pl) (nu, le, ow, fo, run, wc, lc, tr, cl, tm, ms) (yl, yc, yt, co, pa, su, sc) mc ++ R) _ := hP
  have hD : va_D (zAb B) (zWT cI cJ h (n, L) (kt, km, kl) (pt, pm, pl) (nu, le, ow, fo, run, wc, lc, tr, cl, tm, ms) (yl, yc, yt, co, pa, su, sc) mc ++ R) := hD
  refine lv_lstore_n (lv' := [(3, .long (zmx d (((nI co)).toInt64))), (0, .ref (h 0)), (1, .long d)]) hx hb dX4_digestOfHistory_12 rfl hl (by decide) rfl (fun ls hl => ?_)
  refine lv_iconst (v := 0) hx hb dX4_digestOfHistory_13 (by decide) ?_
  refine lv_istore (lv' := [(5, .int 0), (3, .long (zmx d (((nI co)).toInt64))), (0, .ref (h 0)), (1, .long d)]) hx hb dX4_digestOfHistory_14 hl (by decide) rfl (fun ls hl => ?_)
  refine zloop (σ := (Nat) × (Int64)) (nL := 7) (fun x9 => (zWT cI cJ h (n, L) (kt, km, kl) (pt, pm, pl) (nu, le, ow, fo, run, wc, lc, tr, cl, tm, ms) (yl, yc, yt, co, pa, su, sc) mc ++ R)) (fun x9 => [(5, .int (nI x9.1)), (3, .long x9.2), (0, .ref (h 0)), (1, .long d)]) (fun x9 => []) (fun x9 => (x9.1 ≤ co) ∧ x9.2 = zdH yl yc yt (zmx d (nI co).toInt64) x9.1) (fun x9 => co - x9.1) ?_ (0, zmx d (nI co).toInt64) (⟨by omega, rfl⟩) _ _ _ hP hD hS (lv_sub hl [0, 1, 2, 3] rfl)
  rintro ⟨j, z⟩ hI ih H locs ls hP hD hS hl
  try dsimp only at hI ih hP hD hS hl ⊢
  obtain ⟨hI, rfl⟩ := hI
  refine lv_iload hx hb dX4_digestOfHistory_16 (lv_at hl 0 rfl) ?_
  refine lv_aload_n hx hb dX4_digestOfHistory_18 rfl (lv_at hl 2 rfl) ?_
  refine va_get (ci := 4) (v := .ref (h 16)) (C := RX4) (T := TX4) (N := 6) hx hb hts hinX4 hown hK hP 0 rfl rfl 4 (by decide) (hts (.fieldLink RX4 38 "TypingTutor" "past" "LTypingTutor$History;") (List.mem_of_getElem? (i := 1) rfl)) (fun _ h9 => h9) rfl dX4_digestOfHistory_19 ?_
  refine zci (zrV (As := []) (rest := [.int (nI j)]) ⟨hx, hb, hml, hown, hts⟩ (zV 16 hP hD hK hE hB hS rfl rfl) (c_X0_size  ) (cwV 0 hts gX4_digestOfHistory_X0_size rfl rfl rfl hdv_X0_size ⟨Nat.le_of_ble_eq_true rfl, Nat.le_of_ble_eq_true rfl⟩) rfl rfl hl.1 rfl (lv_room (Nat.le_of_ble_eq_true rfl)) dX4_digestOfHistory_22 ⟨Nat.le_of_ble_eq_true rfl, Nat.le_of_ble_eq_true rfl⟩) hS (fun H locs hP hD hS => ?_)
  have hP : va_P D vwCl (zWT cI cJ h (n, L) (kt, km, kl) (pt, pm, pl) (nu, le, ow, fo, run, wc, lc, tr, cl, tm, ms) (yl, yc, yt, co, pa, su, sc) mc ++ R) _ := hP
  have hD : va_D (zAb B) (zWT cI cJ h (n, L) (kt, km, kl) (pt, pm, pl) (nu, le, ow, fo, run, wc, lc, tr, cl, tm, ms) (yl, yc, yt, co, pa, su, sc) mc ++ R) := hD
  refine lv_icmp_ge (tgt := 66) hx hb dX4_digestOfHistory_25 (by decide) (fun c_1 => ?_) (fun c_1 => ?_)
  · skip
    have c_1 : co ≤ j := (nI_leI (a := co) (b := j) (by omega) (by omega)).mp c_1
    obtain rfl : co = j := by omega
    refine lv_lload_n hx hb dX4_digestOfHistory_66 rfl (lv_at hl 1 rfl) ?_
    refine lv_aload_n hx hb dX4_digestOfHistory_67 rfl (lv_at hl 2 rfl) ?_
    refine va_get (ci := 4) (v := .ref (h 16)) (C := RX4) (T := TX4) (N := 6) hx hb hts hinX4 hown hK hP 0 rfl rfl 4 (by decide) (hts (.fieldLink RX4 38 "TypingTutor" "past" "LTypingTutor$History;") (List.mem_of_getElem? (i := 1) rfl)) (fun _ h9 => h9) rfl dX4_digestOfHistory_68 ?_
    refine zci (zrV (As := []) (rest := [.long (zdH yl yc yt (zmx d (nI co).toInt64) co)]) ⟨hx, hb, hml, hown, hts⟩ (zV 16 hP hD hK hE hB hS rfl rfl) (c_X0_advisedPace  ) (cwV 0 hts gX4_digestOfHistory_X0_advisedPace rfl rfl rfl hdv_X0_advisedPace ⟨Nat.le_of_ble_eq_true rfl, Nat.le_of_ble_eq_true rfl⟩) rfl rfl hl.1 rfl (lv_room (Nat.le_of_ble_eq_true rfl)) dX4_digestOfHistory_71 ⟨Nat.le_of_ble_eq_true rfl, Nat.le_of_ble_eq_true rfl⟩) hS (fun H locs hP hD hS => ?_)
    have hP : va_P D vwCl (zWT cI cJ h (n, L) (kt, km, kl) (pt, pm, pl) (nu, le, ow, fo, run, wc, lc, tr, cl, tm, ms) (yl, yc, yt, co, pa, su, sc) mc ++ R) _ := hP
    have hD : va_D (zAb B) (zWT cI cJ h (n, L) (kt, km, kl) (pt, pm, pl) (nu, le, ow, fo, run, wc, lc, tr, cl, tm, ms) (yl, yc, yt, co, pa, su, sc) mc ++ R) := hD
    refine lv_i2l (v := (pa).toInt64) hx hb dX4_digestOfHistory_74 rfl ?_
    refine zcl (zrS (As := [.long (zdH yl yc yt (zmx d (nI co).toInt64) co), .long ((pa).toInt64)]) (rest := []) ⟨hx, hb, hml, hown, hts⟩ (zS hP hD hK hE hB hS) (c_X4_mixed  ) (va_cwS 2 hts gX4_digestOfHistory_X4_mixed rfl rfl rfl hds_X4_mixed ⟨Nat.le_of_ble_eq_true rfl, Nat.le_of_ble_eq_true rfl⟩) rfl rfl hl.1 rfl (lv_room (Nat.le_of_ble_eq_true rfl)) dX4_digestOfHistory_75 ⟨Nat.le_of_ble_eq_true rfl, Nat.le_of_ble_eq_true rfl⟩) hS (fun H locs hP hD hS => ?_)
    have hP : va_P D vwCl (zWT cI cJ h (n, L) (kt, km, kl) (pt, pm, pl) (nu, le, ow, fo, run, wc, lc, tr, cl, tm, ms) (yl, yc, yt, co, pa, su, sc) mc ++ R) _ := hP
    have hD : va_D (zAb B) (zWT cI cJ h (n, L) (kt, km, kl) (pt, pm, pl) (nu, le, ow, fo, run, wc, lc, tr, cl, tm, ms) (yl, yc, yt, co, pa, su, sc) mc ++ R) := hD
    exact W.lret (v := (zmx (zdH yl yc yt (zmx d (nI co).toInt64) co) ((pa).toInt64))) hx hb hr (fun t ht hW => ⟨⟨_, (), rfl, rfl, by rw [ht]; exact hP, hD⟩, hS.F ht⟩) hS.2.2 dX4_digestOfHistory_78
  · skip
    have c_1 : ¬ co ≤ j := fun hh => c_1 ((nI_leI (a := co) (b := j) (by omega) (by omega)).mpr hh)
    refine lv_iconst (v := 0) hx hb dX4_digestOfHistory_28 (by decide) ?_
    refine lv_istore (lv' := [(6, .int 0), (5, .int (nI j)), (3, .long (zdH yl yc yt (zmx d (nI co).toInt64) j)), (0, .ref (h 0)), (1, .long d)]) hx hb dX4_digestOfHistory_29 hl (by decide) rfl (fun ls hl => ?_)
    refine lv_iload hx hb dX4_digestOfHistory_31 (lv_at hl 0 rfl) ?_
    refine lv_iconst (v := 3) hx hb dX4_digestOfHistory_33 (by decide) ?_
    refine lv_icmp_gt (tgt := 60) hx hb dX4_digestOfHistory_34 (by decide) (fun c_2 => ?_) (fun c_2 => ?_)
    · skip
      exfalso; first | omega | (revert c_2; decide) | (exact absurd rfl c_2) | simp_all
    · skip
      refine lv_lload_n hx hb dX4_digestOfHistory_37 rfl (lv_at hl 2 rfl) ?_
      refine lv_aload_n hx hb dX4_digestOfHistory_38 rfl (lv_at hl 3 rfl) ?_
      refine va_get (ci := 4) (v := .ref (h 16)) (C := RX4) (T := TX4) (N := 6) hx hb hts hinX4 hown hK hP 0 rfl rfl 4 (by decide) (hts (.fieldLink RX4 38 "TypingTutor" "past" "LTypingTutor$History;") (List.mem_of_getElem? (i := 1) rfl)) (fun _ h9 => h9) rfl dX4_digestOfHistory_39 ?_
      refine lv_iload hx hb dX4_digestOfHistory_42 (lv_at hl 1 rfl) ?_
      refine lv_iload hx hb dX4_digestOfHistory_44 (lv_at hl 0 rfl) ?_
      refine zci (zrV (As := [.int (nI j), .int 0]) (rest := [.long (zdH yl yc yt (zmx d (nI co).toInt64) j)]) ⟨hx, hb, hml, hown, hts⟩ (zV 16 hP hD hK hE hB hS rfl rfl) (c_X0_tell_0 (k := j) (by omega)) (cwV 2 hts gX4_digestOfHistory_X0_tell rfl rfl rfl hdv_X0_tell ⟨Nat.le_of_ble_eq_true rfl, Nat.le_of_ble_eq_true rfl⟩) rfl rfl hl.1 rfl (lv_room (Nat.le_of_ble_eq_true rfl)) dX4_digestOfHistory_46 ⟨Nat.le_of_ble_eq_true rfl, Nat.le_of_ble_eq_true rfl⟩) hS (fun H locs hP hD hS => ?_)
      have hP : va_P D vwCl (zWT cI cJ h (n, L) (kt, km, kl) (pt, pm, pl) (nu, le, ow, fo, run, wc, lc, tr, cl, tm, ms) (yl, yc, yt, co, pa, su, sc) mc ++ R) _ := hP
      have hD : va_D (zAb B) (zWT cI cJ h (n, L) (kt, km, kl) (pt, pm, pl) (nu, le, ow, fo, run, wc, lc, tr, cl, tm, ms) (yl, yc, yt, co, pa, su, sc) mc ++ R) := hD
      refine lv_i2l (v := ((yl j)).toInt64) hx hb dX4_digestOfHistory_49 rfl ?_
      refine zcl (zrS (As := [.long (zdH yl yc yt (zmx d (nI co).toInt64) j), .long (((yl j)).toInt64)]) (rest := []) ⟨hx, hb, hml, hown, hts⟩ (zS hP hD hK hE hB hS) (c_X4_mixed  ) (va_cwS 2 hts gX4_digestOfHistory_X4_mixed rfl rfl rfl hds_X4_mixed ⟨Nat.le_of_ble_eq_true rfl, Nat.le_of_ble_eq_true rfl⟩) rfl rfl hl.1 rfl (lv_room (Nat.le_of_ble_eq_true rfl)) dX4_digestOfHistory_50 ⟨Nat.le_of_ble_eq_true rfl, Nat.le_of_ble_eq_true rfl⟩) hS (fun H locs hP hD hS => ?_)
      have hP : va_P D vwCl (zWT cI cJ h (n, L) (kt, km, kl) (pt, pm, pl) (nu, le, ow, fo, run, wc, lc, tr, cl, tm, ms) (yl, yc, yt, co, pa, su, sc) mc ++ R) _ := hP
      have hD : va_D (zAb B) (zWT cI cJ h (n, L) (kt, km, kl) (pt, pm, pl) (nu, le, ow, fo, run, wc, lc, tr, cl, tm, ms) (yl, yc, yt, co, pa, su, sc) mc ++ R) := hD
      refine lv_lstore_n (lv' := [(3, .long (zmx (zdH yl yc yt (zmx d (nI co).toInt64) j) (((yl j)).toInt64))), (6, .int 0), (5, .int (nI j)), (0, .ref (h 0)), (1, .long d)]) hx hb dX4_digestOfHistory_53 rfl hl (by decide) rfl (fun ls hl => ?_)
      refine lv_iinc (v := 1) (lv' := [(6, .int 1), (3, .long (zmx (zdH yl yc yt (zmx d (nI co).toInt64) j) (((yl j)).toInt64))), (5, .int (nI j)), (0, .ref (h 0)), (1, .long d)]) hx hb dX4_digestOfHistory_54 hl (k := 1) rfl (by decide) (by decide) rfl (fun ls hl => ?_)
      refine lv_goto (tgt := 31) hx hb dX4_digestOfHistory_57 (by decide) ?_
      refine lv_iload hx hb dX4_digestOfHistory_31 (lv_at hl 0 rfl) ?_
      refine lv_iconst (v := 3) hx hb dX4_digestOfHistory_33 (by decide) ?_
      refine lv_icmp_gt (tgt := 60) hx hb dX4_digestOfHistory_34 (by decide) (fun c_3 => ?_) (fun c_3 => ?_)
      · skip
        exfalso; first | omega | (revert c_3; decide) | (exact absurd rfl c_3) | simp_all
      · skip
        refine lv_lload_n hx hb dX4_digestOfHistory_37 rfl (lv_at hl 1 rfl) ?_
        refine lv_aload_n hx hb dX4_digestOfHistory_38 rfl (lv_at hl 3 rfl) ?_
        refine va_get (ci := 4) (v := .ref (h 16)) (C := RX4) (T := TX4) (N := 6) hx hb hts hinX4 hown hK hP 0 rfl rfl 4 (by decide) (hts (.fieldLink RX4 38 "TypingTutor" "past" "LTypingTutor$History;") (List.mem_of_getElem? (i := 1) rfl)) (fun _ h9 => h9) rfl dX4_digestOfHistory_39 ?_
        refine lv_iload hx hb dX4_digestOfHistory_42 (lv_at hl 2 rfl) ?_
        refine lv_iload hx hb dX4_digestOfHistory_44 (lv_at hl 0 rfl) ?_
        refine zci (zrV (As := [.int (nI j), .int 1]) (rest := [.long (zmx (zdH yl yc yt (zmx d (nI co).toInt64) j) (((yl j)).toInt64))]) ⟨hx, hb, hml, hown, hts⟩ (zV 16 hP hD hK hE hB hS rfl rfl) (c_X0_tell_1 (k := j) (by omega)) (cwV 2 hts gX4_digestOfHistory_X0_tell rfl rfl rfl hdv_X0_tell ⟨Nat.le_of_ble_eq_true rfl, Nat.le_of_ble_eq_true rfl⟩) rfl rfl hl.1 rfl (lv_room (Nat.le_of_ble_eq_true rfl)) dX4_digestOfHistory_46 ⟨Nat.le_of_ble_eq_true rfl, Nat.le_of_ble_eq_true rfl⟩) hS (fun H locs hP hD hS => ?_)
        have hP : va_P D vwCl (zWT cI cJ h (n, L) (kt, km, kl) (pt, pm, pl) (nu, le, ow, fo, run, wc, lc, tr, cl, tm, ms) (yl, yc, yt, co, pa, su, sc) mc ++ R) _ := hP
        have hD : va_D (zAb B) (zWT cI cJ h (n, L) (kt, km, kl) (pt, pm, pl) (nu, le, ow, fo, run, wc, lc, tr, cl, tm, ms) (yl, yc, yt, co, pa, su, sc) mc ++ R) := hD
        refine lv_i2l (v := ((yc j)).toInt64) hx hb dX4_digestOfHistory_49 rfl ?_
        refine zcl (zrS (As := [.long (zmx (zdH yl yc yt (zmx d (nI co).toInt64) j) (((yl j)).toInt64)), .long (((yc j)).toInt64)]) (rest := []) ⟨hx, hb, hml, hown, hts⟩ (zS hP hD hK hE hB hS) (c_X4_mixed  ) (va_cwS 2 hts gX4_digestOfHistory_X4_mixed rfl rfl rfl hds_X4_mixed ⟨Nat.le_of_ble_eq_true rfl, Nat.le_of_ble_eq_true rfl⟩) rfl rfl hl.1 rfl (lv_room (Nat.le_of_ble_eq_true rfl)) dX4_digestOfHistory_50 ⟨Nat.le_of_ble_eq_true rfl, Nat.le_of_ble_eq_true rfl⟩) hS (fun H locs hP hD hS => ?_)
        have hP : va_P D vwCl (zWT cI cJ h (n, L) (kt, km, kl) (pt, pm, pl) (nu, le, ow, fo, run, wc, lc, tr, cl, tm, ms) (yl, yc, yt, co, pa, su, sc) mc ++ R) _ := hP
        have hD : va_D (zAb B) (zWT cI cJ h (n, L) (kt, km, kl) (pt, pm, pl) (nu, le, ow, fo, run, wc, lc, tr, cl, tm, ms) (yl, yc, yt, co, pa, su, sc) mc ++ R) := hD
        refine lv_lstore_n (lv' := [(3, .long (zmx (zmx (zdH yl yc yt (zmx d (nI co).toInt64) j) (((yl j)).toInt64)) (((yc j)).toInt64))), (6, .int 1), (5, .int (nI j)), (0, .ref (h 0)), (1, .long d)]) hx hb dX4_digestOfHistory_53 rfl hl (by decide) rfl (fun ls hl => ?_)
        refine lv_iinc (v := 2) (lv' := [(6, .int 2), (3, .long (zmx (zmx (zdH yl yc yt (zmx d (nI co).toInt64) j) (((yl j)).toInt64)) (((yc j)).toInt64))), (5, .int (nI j)), (0, .ref (h 0)), (1, .long d)]) hx hb dX4_digestOfHistory_54 hl (k := 1) rfl (by decide) (by decide) rfl (fun ls hl => ?_)
        refine lv_goto (tgt := 31) hx hb dX4_digestOfHistory_57 (by decide) ?_
        refine lv_iload hx hb dX4_digestOfHistory_31 (lv_at hl 0 rfl) ?_
        refine lv_iconst (v := 3) hx hb dX4_digestOfHistory_33 (by decide) ?_
        refine lv_icmp_gt (tgt := 60) hx hb dX4_digestOfHistory_34 (by decide) (fun c_4 => ?_) (fun c_4 => ?_)
        · skip
          exfalso; first | omega | (revert c_4; decide) | (exact absurd rfl c_4) | simp_all
        · skip
          refine lv_lload_n hx hb dX4_digestOfHistory_37 rfl (lv_at hl 1 rfl) ?_
          refine lv_aload_n hx hb dX4_digestOfHistory_38 rfl (lv_at hl 3 rfl) ?_
          refine va_get (ci := 4) (v := .ref (h 16)) (C := RX4) (T := TX4) (N := 6) hx hb hts hinX4 hown hK hP 0 rfl rfl 4 (by decide) (hts (.fieldLink RX4 38 "TypingTutor" "past" "LTypingTutor$History;") (List.mem_of_getElem? (i := 1) rfl)) (fun _ h9 => h9) rfl dX4_digestOfHistory_39 ?_
          refine lv_iload hx hb dX4_digestOfHistory_42 (lv_at hl 2 rfl) ?_
          refine lv_iload hx hb dX4_digestOfHistory_44 (lv_at hl 0 rfl) ?_
          refine zci (zrV (As := [.int (nI j), .int 2]) (rest := [.long (zmx (zmx (zdH yl yc yt (zmx d (nI co).toInt64) j) (((yl j)).toInt64)) (((yc j)).toInt64))]) ⟨hx, hb, hml, hown, hts⟩ (zV 16 hP hD hK hE hB hS rfl rfl) (c_X0_tell_2 (k := j) (by omega)) (cwV 2 hts gX4_digestOfHistory_X0_tell rfl rfl rfl hdv_X0_tell ⟨Nat.le_of_ble_eq_true rfl, Nat.le_of_ble_eq_true rfl⟩) rfl rfl hl.1 rfl (lv_room (Nat.le_of_ble_eq_true rfl)) dX4_digestOfHistory_46 ⟨Nat.le_of_ble_eq_true rfl, Nat.le_of_ble_eq_true rfl⟩) hS (fun H locs hP hD hS => ?_)
          have hP : va_P D vwCl (zWT cI cJ h (n, L) (kt, km, kl) (pt, pm, pl) (nu, le, ow, fo, run, wc, lc, tr, cl, tm, ms) (yl, yc, yt, co, pa, su, sc) mc ++ R) _ := hP
          have hD : va_D (zAb B) (zWT cI cJ h (n, L) (kt, km, kl) (pt, pm, pl) (nu, le, ow, fo, run, wc, lc, tr, cl, tm, ms) (yl, yc, yt, co, pa, su, sc) mc ++ R) := hD
          refine lv_i2l (v := ((yt j)).toInt64) hx hb dX4_digestOfHistory_49 rfl ?_
          refine zcl (zrS (As := [.long (zmx (zmx (zdH yl yc yt (zmx d (nI co).toInt64) j) (((yl j)).toInt64)) (((yc j)).toInt64)), .long (((yt j)).toInt64)]) (rest := []) ⟨hx, hb, hml, hown, hts⟩ (zS hP hD hK hE hB hS) (c_X4_mixed  ) (va_cwS 2 hts gX4_digestOfHistory_X4_mixed rfl rfl rfl hds_X4_mixed ⟨Nat.le_of_ble_eq_true rfl, Nat.le_of_ble_eq_true rfl⟩) rfl rfl hl.1 rfl (lv_room (Nat.le_of_ble_eq_true rfl)) dX4_digestOfHistory_50 ⟨Nat.le_of_ble_eq_true rfl, Nat.le_of_ble_eq_true rfl⟩) hS (fun H locs hP hD hS => ?_)
          have hP : va_P D vwCl (zWT cI cJ h (n, L) (kt, km, kl) (pt, pm, pl) (nu, le, ow, fo, run, wc, lc, tr, cl, tm, ms) (yl, yc, yt, co, pa, su, sc) mc ++ R) _ := hP
          have hD : va_D (zAb B) (zWT cI cJ h (n, L) (kt, km, kl) (pt, pm, pl) (nu, le, ow, fo, run, wc, lc, tr, cl, tm, ms) (yl, yc, yt, co, pa, su, sc) mc ++ R) := hD
          refine lv_lstore_n (lv' := [(3, .long (zmx (zmx (zmx (zdH yl yc yt (zmx d (nI co).toInt64) j) (((yl j)).toInt64)) (((yc j)).toInt64)) (((yt j)).toInt64))), (6, .int 2), (5, .int (nI j)), (0, .ref (h 0)), (1, .long d)]) hx hb dX4_digestOfHistory_53 rfl hl (by decide) rfl (fun ls hl => ?_)
          refine lv_iinc (v := 3) (lv' := [(6, .int 3), (3, .long (zmx (zmx (zmx (zdH yl yc yt (zmx d (nI co).toInt64) j) (((yl j)).toInt64)) (((yc j)).toInt64)) (((yt j)).toInt64))), (5, .int (nI j)), (0, .ref (h 0)), (1, .long d)]) hx hb dX4_digestOfHistory_54 hl (k := 1) rfl (by decide) (by decide) rfl (fun ls hl => ?_)
          refine lv_goto (tgt := 31) hx hb dX4_digestOfHistory_57 (by decide) ?_
          refine lv_iload hx hb dX4_digestOfHistory_31 (lv_at hl 0 rfl) ?_
          refine lv_iconst (v := 3) hx hb dX4_digestOfHistory_33 (by decide) ?_
          refine lv_icmp_gt (tgt := 60) hx hb dX4_digestOfHistory_34 (by decide) (fun c_5 => ?_) (fun c_5 => ?_)
          · skip
            exfalso; first | omega | (revert c_5; decide) | (exact absurd rfl c_5) | simp_all
          · skip
            refine lv_lload_n hx hb dX4_digestOfHistory_37 rfl (lv_at hl 1 rfl) ?_
            refine lv_aload_n hx hb dX4_digestOfHistory_38 rfl (lv_at hl 3 rfl) ?_
            refine va_get (ci := 4) (v := .ref (h 16)) (C := RX4) (T := TX4) (N := 6) hx hb hts hinX4 hown hK hP 0 rfl rfl 4 (by decide) (hts (.fieldLink RX4 38 "TypingTutor" "past" "LTypingTutor$History;") (List.mem_of_getElem? (i := 1) rfl)) (fun _ h9 => h9) rfl dX4_digestOfHistory_39 ?_
            refine lv_iload hx hb dX4_digestOfHistory_42 (lv_at hl 2 rfl) ?_
            refine lv_iload hx hb dX4_digestOfHistory_44 (lv_at hl 0 rfl) ?_
            refine zci (zrV (As := [.int (nI j), .int 3]) (rest := [.long (zmx (zmx (zmx (zdH yl yc yt (zmx d (nI co).toInt64) j) (((yl j)).toInt64)) (((yc j)).toInt64)) (((yt j)).toInt64))]) ⟨hx, hb, hml, hown, hts⟩ (zV 16 hP hD hK hE hB hS rfl rfl) (c_X0_tell_3 (k := j) (by omega)) (cwV 2 hts gX4_digestOfHistory_X0_tell rfl rfl rfl hdv_X0_tell ⟨Nat.le_of_ble_eq_true rfl, Nat.le_of_ble_eq_true rfl⟩) rfl rfl hl.1 rfl (lv_room (Nat.le_of_ble_eq_true rfl)) dX4_digestOfHistory_46 ⟨Nat.le_of_ble_eq_true rfl, Nat.le_of_ble_eq_true rfl⟩) hS (fun H locs hP hD hS => ?_)
            have hP : va_P D vwCl (zWT cI cJ h (n, L) (kt, km, kl) (pt, pm, pl) (nu, le, ow, fo, run, wc, lc, tr, cl, tm, ms) (yl, yc, yt, co, pa, su, sc) mc ++ R) _ := hP
            have hD : va_D (zAb B) (zWT cI cJ h (n, L) (kt, km, kl) (pt, pm, pl) (nu, le, ow, fo, run, wc, lc, tr, cl, tm, ms) (yl, yc, yt, co, pa, su, sc) mc ++ R) := hD
            refine lv_i2l (v := ((zsp yl yt j)).toInt64) hx hb dX4_digestOfHistory_49 rfl ?_
            refine zcl (zrS (As := [.long (zmx (zmx (zmx (zdH yl yc yt (zmx d (nI co).toInt64) j) (((yl j)).toInt64)) (((yc j)).toInt64)) (((yt j)).toInt64)), .long (((zsp yl yt j)).toInt64)]) (rest := []) ⟨hx, hb, hml, hown, hts⟩ (zS hP hD hK hE hB hS) (c_X4_mixed  ) (va_cwS 2 hts gX4_digestOfHistory_X4_mixed rfl rfl rfl hds_X4_mixed ⟨Nat.le_of_ble_eq_true rfl, Nat.le_of_ble_eq_true rfl⟩) rfl rfl hl.1 rfl (lv_room (Nat.le_of_ble_eq_true rfl)) dX4_digestOfHistory_50 ⟨Nat.le_of_ble_eq_true rfl, Nat.le_of_ble_eq_true rfl⟩) hS (fun H locs hP hD hS => ?_)
            have hP : va_P D vwCl (zWT cI cJ h (n, L) (kt, km, kl) (pt, pm, pl) (nu, le, ow, fo, run, wc, lc, tr, cl, tm, ms) (yl, yc, yt, co, pa, su, sc) mc ++ R) _ := hP
            have hD : va_D (zAb B) (zWT cI cJ h (n, L) (kt, km, kl) (pt, pm, pl) (nu, le, ow, fo, run, wc, lc, tr, cl, tm, ms) (yl, yc, yt, co, pa, su, sc) mc ++ R) := hD
            refine lv_lstore_n (lv' := [(3, .long (zmx (zmx (zmx (zmx (zdH yl yc yt (zmx d (nI co).toInt64) j) (((yl j)).toInt64)) (((yc j)).toInt64)) (((yt j)).toInt64)) (((zsp yl yt j)).toInt64))), (6, .int 3), (5, .int (nI j)), (0, .ref (h 0)), (1, .long d)]) hx hb dX4_digestOfHistory_53 rfl hl (by decide) rfl (fun ls hl => ?_)
            refine lv_iinc (v := 4) (lv' := [(6, .int 4), (3, .long (zmx (zmx (zmx (zmx (zdH yl yc yt (zmx d (nI co).toInt64) j) (((yl j)).toInt64)) (((yc j)).toInt64)) (((yt j)).toInt64)) (((zsp yl yt j)).toInt64))), (5, .int (nI j)), (0, .ref (h 0)), (1, .long d)]) hx hb dX4_digestOfHistory_54 hl (k := 1) rfl (by decide) (by decide) rfl (fun ls hl => ?_)
            refine lv_goto (tgt := 31) hx hb dX4_digestOfHistory_57 (by decide) ?_
            refine lv_iload hx hb dX4_digestOfHistory_31 (lv_at hl 0 rfl) ?_
            refine lv_iconst (v := 3) hx hb dX4_digestOfHistory_33 (by decide) ?_
            refine lv_icmp_gt (tgt := 60) hx hb dX4_digestOfHistory_34 (by decide) (fun c_6 => ?_) (fun c_6 => ?_)
            · skip
              refine lv_iinc (v := (nI (j + 1))) (lv' := [(5, .int (nI (j + 1))), (6, .int 4), (3, .long (zmx (zmx (zmx (zmx (zdH yl yc yt (zmx d (nI co).toInt64) j) (((yl j)).toInt64)) (((yc j)).toInt64)) (((yt j)).toInt64)) (((zsp yl yt j)).toInt64))), (0, .ref (h 0)), (1, .long d)]) hx hb dX4_digestOfHistory_60 hl (k := 2) rfl (nI_add j 1) (by decide) rfl (fun ls hl => ?_)
              refine lv_goto (tgt := 16) hx hb dX4_digestOfHistory_63 (by decide) ?_
              exact ih (j + 1, (zmx (zmx (zmx (zmx (zdH yl yc yt (zmx d (nI co).toInt64) j) (((yl j)).toInt64)) (((yc j)).toInt64)) (((yt j)).toInt64)) (((zsp yl yt j)).toInt64))) (⟨by omega, rfl⟩) (by omega) _ _ _ hP hD hS (lv_sub hl [0, 2, 3, 4] rfl)
            · skip
              exfalso; first | omega | (revert c_6; decide) | (exact absurd rfl c_6) | simp_all

set_option maxHeartbeats 1000000 in
set_option maxRecDepth 100000 in
theorem c_X4_digest {l : Launch} {B kr kp : Nat} {D : va_G} {cI cJ cZ : ClassId} {h : Nat → Nat} {R : va_W} {n : Nat} {L : Nat → Int64} {kt : Nat → Int32} {km : Nat → Int32} {kl : Nat → Int32} {pt : Nat → Int32} {pm : Nat → Int32} {pl : Nat → Int32} {nu : Nat → Int32} {le : Nat → Int32} {ow : Nat → Int32} {fo : Nat → Int32} {run : Bool} {wc : Nat} {lc : Nat} {tr : Nat} {cl : Nat} {tm : Nat} {ms : Nat} {yl : Nat → Int32} {yc : Nat → Int32} {yt : Nat → Int32} {co : Nat} {pa : Int32} {su : Nat} {sc : Nat} {mc : Nat → Int32}    (hn : n ≤ 40) (hwc : wc ≤ 6) (hco : co ≤ 256) (hpt : ∀ p, p < 676 → ∃ k, k < 2147483648 ∧ pt p = nI k) : Met l yX4_digest wsX4_digest ({ frames := 4, cells := 0, slots := 0, locals := 94 }) (zPc B kr kp D (zTy cI cJ cZ) (zWT cI cJ h (n, L) (kt, km, kl) (pt, pm, pl) (nu, le, ow, fo, run, wc, lc, tr, cl, tm, ms) (yl, yc, yt, co, pa, su, sc) mc ++ R) [.ref (h 0)]) (zQl B D (zWT cI cJ h (n, L) (kt, km, kl) (pt, pm, pl) (nu, le, ow, fo, run, wc, lc, tr, cl, tm, ms) (yl, yc, yt, co, pa, su, sc) mc ++ R) (zmx (zdH yl yc yt (zmx (zdL run nu wc tr (zd4 mc (zdP pt pm pl (zdK kt km kl (zdW L (zmx 191 (nI n).toInt64) n) 26) 676))) (nI co).toInt64) co) pa.toInt64)) 0 0 (zAb B) := by
  refine Met.ofW (cc := cX4_digest) (maxL := 3) (ret := (some .long)) (by decide) rfl ?_
  intro p e s m args below meth c s₁ B0 hml hv
  obtain ⟨rfl, hP, hD, hK, hE, hB⟩ := hv
  have hx := B0.exec
  have hb := B0.bytes
  have hr := B0.returns
  have hts := atoms_spec (ws := wsX4_digest) B0.pre
  have hown : s.vm.findClass RX4 = some m.cls := findClass_of_methodNamed B0.named
  have hlocks := B0.notSynchronized
  have hA : ∀ q : Nat, s.heap.size ≤ q → zAb B q := fun q hq => Nat.le_trans hB hq
  have hS : va_S (zAb B) s.heap s.heap [] := va_S.rf
  have hgr : s.heap.size ≤ s.heap.size := Nat.le_refl _
  have hl := lv_entry ([.ref (h 0)]) (n := 3) (Nat.le_of_ble_eq_true rfl)
  rw [lg_entry_eq]
  generalize (lg_sl ([.ref (h 0)]) ++ List.replicate (3 - (lg_sl ([.ref (h 0)])).length) Slot.unset).toArray = ls at hl ⊢
  have hl : lv_has ls 3 [(0, .ref (h 0))] := hl
  have hP : va_P D vwCl (zWT cI cJ h (n, L) (kt, km, kl) (pt, pm, pl) (nu, le, ow, fo, run, wc, lc, tr, cl, tm, ms) (yl, yc, yt, co, pa, su, sc) mc ++ R) s.heap := hP
  have hD : va_D (zAb B) (zWT cI cJ h (n, L) (kt, km, kl) (pt, pm, pl) (nu, le, ow, fo, run, wc, lc, tr, cl, tm, ms) (yl, yc, yt, co, pa, su, sc) mc ++ R) := hD
  refine lv_aload_n hx hb dX4_digest_0 rfl (lv_at hl 0 rfl) ?_
  refine lv_ldc2 hx hb hown (hts (.constantLong RX4 201 (191)) (List.mem_of_getElem? (i := 1) rfl)) dX4_digest_1 ?_
  refine zcl (zrV (As := [.long 191]) (rest := []) ⟨hx, hb, hml, hown, hts⟩ (zV 0 hP hD hK hE hB hS rfl rfl) (c_X4_digestOfWords  (hn)) (cwV 1 hts gX4_digest_X4_digestOfWords rfl rfl rfl hdv_X4_digestOfWords ⟨Nat.le_of_ble_eq_true rfl, Nat.le_of_ble_eq_true rfl⟩) rfl rfl hl.1 rfl (lv_room (Nat.le_of_ble_eq_true rfl)) dX4_digest_4 ⟨Nat.le_of_ble_eq_true rfl, Nat.le_of_ble_eq_true rfl⟩) hS (fun H locs hP hD hS => ?_)
  have hP : va_P D vwCl (zWT cI cJ h (n, L) (kt, km, kl) (pt, pm, pl) (nu, le, ow, fo, run, wc, lc, tr, cl, tm, ms) (yl, yc, yt, co, pa, su, sc) mc ++ R) _ := hP
  have hD : va_D (zAb B) (zWT cI cJ h (n, L) (kt, km, kl) (pt, pm, pl) (nu, le, ow, fo, run, wc, lc, tr, cl, tm, ms) (yl, yc, yt, co, pa, su, sc) mc ++ R) := hD
  refine lv_lstore_n (lv' := [(1, .long (zdW L (zmx 191 (nI n).toInt64) n)), (0, .ref (h 0))]) hx hb dX4_digest_7 rfl hl (by decide) rfl (fun ls hl => ?_)
  refine lv_aload_n hx hb dX4_digest_8 rfl (lv_at hl 1 rfl) ?_
  refine lv_lload_n hx hb dX4_digest_9 rfl (lv_at hl 0 rfl) ?_
  refine zcl (zrV (As := [.long (zdW L (zmx 191 (nI n).toInt64) n)]) (rest := []) ⟨hx, hb, hml, hown, hts⟩ (zV 0 hP hD hK hE hB hS rfl rfl) (c_X4_digestOfKnowledge  (hpt)) (cwV 1 hts gX4_digest_X4_digestOfKnowledge rfl rfl rfl hdv_X4_digestOfKnowledge ⟨Nat.le_of_ble_eq_true rfl, Nat.le_of_ble_eq_true rfl⟩) rfl rfl hl.1 rfl (lv_room (Nat.le_of_ble_eq_true rfl)) dX4_digest_10 ⟨Nat.le_of_ble_eq_true rfl, Nat.le_of_ble_eq_true rfl⟩) hS (fun H locs hP hD hS => ?_)
  have hP : va_P D vwCl (zWT cI cJ h (n, L) (kt, km, kl) (pt, pm, pl) (nu, le, ow, fo, run, wc, lc, tr, cl, tm, ms) (yl, yc, yt, co, pa, su, sc) mc ++ R) _ := hP
  have hD : va_D (zAb B) (zWT cI cJ h (n, L) (kt, km, kl) (pt, pm, pl) (nu, le, ow, fo, run, wc, lc, tr, cl, tm, ms) (yl, yc, yt, co, pa, su, sc) mc ++ R) := hD
  refine lv_lstore_n (lv' := [(1, .long (zd4 mc (zdP pt pm pl (zdK kt km kl (zdW L (zmx 191 (nI n).toInt64) n) 26) 676))), (0, .ref (h 0))]) hx hb dX4_digest_13 rfl hl (by decide) rfl (fun ls hl => ?_)
  refine lv_aload_n hx hb dX4_digest_14 rfl (lv_at hl 1 rfl) ?_
  refine lv_lload_n hx hb dX4_digest_15 rfl (lv_at hl 0 rfl) ?_
  refine zcl (zrV (As := [.long (zd4 mc (zdP pt pm pl (zdK kt km kl (zdW L (zmx 191 (nI n).toInt64) n) 26) 676))]) (rest := []) ⟨hx, hb, hml, hown, hts⟩ (zV 0 hP hD hK hE hB hS rfl rfl) (c_X4_digestOfLesson  (hwc)) (cwV 1 hts gX4_digest_X4_digestOfLesson rfl rfl rfl hdv_X4_digestOfLesson ⟨Nat.le_of_ble_eq_true rfl, Nat.le_of_ble_eq_true rfl⟩) rfl rfl hl.1 rfl (lv_room (Nat.le_of_ble_eq_true rfl)) dX4_digest_16 ⟨Nat.le_of_ble_eq_true rfl, Nat.le_of_ble_eq_true rfl⟩) hS (fun H locs hP hD hS => ?_)
  have hP : va_P D vwCl (zWT cI cJ h (n, L) (kt, km, kl) (pt, pm, pl) (nu, le, ow, fo, run, wc, lc, tr, cl, tm, ms) (yl, yc, yt, co, pa, su, sc) mc ++ R) _ := hP
  have hD : va_D (zAb B) (zWT cI cJ h (n, L) (kt, km, kl) (pt, pm, pl) (nu, le, ow, fo, run, wc, lc, tr, cl, tm, ms) (yl, yc, yt, co, pa, su, sc) mc ++ R) := hD
  refine lv_lstore_n (lv' := [(1, .long (zdL run nu wc tr (zd4 mc (zdP pt pm pl (zdK kt km kl (zdW L (zmx 191 (nI n).toInt64) n) 26) 676)))), (0, .ref (h 0))]) hx hb dX4_digest_19 rfl hl (by decide) rfl (fun ls hl => ?_)
  refine lv_aload_n hx hb dX4_digest_20 rfl (lv_at hl 1 rfl) ?_
  refine lv_lload_n hx hb dX4_digest_21 rfl (lv_at hl 0 rfl) ?_
  refine zcl (zrV (As := [.long (zdL run nu wc tr (zd4 mc (zdP pt pm pl (zdK kt km kl (zdW L (zmx 191 (nI n).toInt64) n) 26) 676)))]) (rest := []) ⟨hx, hb, hml, hown, hts⟩ (zV 0 hP hD hK hE hB hS rfl rfl) (c_X4_digestOfHistory  (hco)) (cwV 1 hts gX4_digest_X4_digestOfHistory rfl rfl rfl hdv_X4_digestOfHistory ⟨Nat.le_of_ble_eq_true rfl, Nat.le_of_ble_eq_true rfl⟩) rfl rfl hl.1 rfl (lv_room (Nat.le_of_ble_eq_true rfl)) dX4_digest_22 ⟨Nat.le_of_ble_eq_true rfl, Nat.le_of_ble_eq_true rfl⟩) hS (fun H locs hP hD hS => ?_)
  have hP : va_P D vwCl (zWT cI cJ h (n, L) (kt, km, kl) (pt, pm, pl) (nu, le, ow, fo, run, wc, lc, tr, cl, tm, ms) (yl, yc, yt, co, pa, su, sc) mc ++ R) _ := hP
  have hD : va_D (zAb B) (zWT cI cJ h (n, L) (kt, km, kl) (pt, pm, pl) (nu, le, ow, fo, run, wc, lc, tr, cl, tm, ms) (yl, yc, yt, co, pa, su, sc) mc ++ R) := hD
  exact W.lret (v := (zmx (zdH yl yc yt (zmx (zdL run nu wc tr (zd4 mc (zdP pt pm pl (zdK kt km kl (zdW L (zmx 191 (nI n).toInt64) n) 26) 676))) (nI co).toInt64) co) pa.toInt64)) hx hb hr (fun t ht hW => ⟨⟨_, (), rfl, rfl, by rw [ht]; exact hP, hD⟩, hS.F ht⟩) hS.2.2 dX4_digest_25
