set_option maxHeartbeats 4000000 in
set_option maxRecDepth 100000 in
theorem c_X2_append {l : Launch} {B kr kp : Nat} {D : va_G} {cI cJ cZ : ClassId} {h : Nat → Nat} {R : va_W} {n : Nat} {L : Nat → Int64} {kt : Nat → Int32} {km : Nat → Int32} {kl : Nat → Int32} {pt : Nat → Int32} {pm : Nat → Int32} {pl : Nat → Int32} {nu : Nat → Int32} {le : Nat → Int32} {ow : Nat → Int32} {fo : Nat → Int32} {run : Bool} {wc : Nat} {lc : Nat} {tr : Nat} {cl : Nat} {tm : Nat} {ms : Nat} {yl : Nat → Int32} {yc : Nat → Int32} {yt : Nat → Int32} {co : Nat} {pa : Int32} {su : Nat} {sc : Nat} {mc : Nat → Int32} {x : Int32} {w : Int64}   (hwc : wc < 6) (hlc : lc + zsz w ≤ 48) : Met l yX2_append wsX2_append ({ frames := 1, cells := 0, slots := 0, locals := 23 }) (zPc B kr kp D (zTy cI cJ cZ) (zWT cI cJ h (n, L) (kt, km, kl) (pt, pm, pl) (nu, le, ow, fo, run, wc, lc, tr, cl, tm, ms) (yl, yc, yt, co, pa, su, sc) mc ++ R) [.ref (h 11), .int x, .long w]) (zQv B D (zWT cI cJ h (n, L) (kt, km, kl) (pt, pm, pl) ((upd nu wc x), (zale le lc w (zsz w)), (zaow ow lc wc (zsz w)), (zafo fo w (zsz w)), run, (wc + 1), (lc + zsz w), tr, cl, tm, ms) (yl, yc, yt, co, pa, su, sc) mc ++ R)) 0 0 (zAb B) := by
  refine Met.ofW (cc := cX2_append) (maxL := 8) (ret := none) (by decide) rfl ?_
  intro p e s m args below meth c s₁ B0 hml hv
  obtain ⟨rfl, hP, hD, hK, hE, hB⟩ := hv
  have hx := B0.exec
  have hb := B0.bytes
  have hr := B0.returns
  have hts := atoms_spec (ws := wsX2_append) B0.pre
  have hown : s.vm.findClass RX2 = some m.cls := findClass_of_methodNamed B0.named
  have hlocks := B0.notSynchronized
  have hA : ∀ q : Nat, s.heap.size ≤ q → zAb B q := fun q hq => Nat.le_trans hB hq
  have hS : va_S (zAb B) s.heap s.heap [] := va_S.rf
  have hl := lv_entry ([.ref (h 11), .int x, .long w]) (n := 8) (Nat.le_of_ble_eq_true rfl)
  rw [lg_entry_eq]
  generalize (lg_sl ([.ref (h 11), .int x, .long w]) ++ List.replicate (8 - (lg_sl ([.ref (h 11), .int x, .long w])).length) Slot.unset).toArray = ls at hl ⊢
  have hl : lv_has ls 8 [(0, .ref (h 11)), (1, .int x), (2, .long w)] := hl
  have hinX2 : ∀ w ∈ wsX20, w ∈ wsX2_append := fun _ h => List.mem_cons_of_mem _ (List.mem_append_right _ h)
  have hP : va_P D vwCl (zWT cI cJ h (n, L) (kt, km, kl) (pt, pm, pl) (nu, le, ow, fo, run, wc, lc, tr, cl, tm, ms) (yl, yc, yt, co, pa, su, sc) mc ++ R) s.heap := hP
  have hD : va_D (zAb B) (zWT cI cJ h (n, L) (kt, km, kl) (pt, pm, pl) (nu, le, ow, fo, run, wc, lc, tr, cl, tm, ms) (yl, yc, yt, co, pa, su, sc) mc ++ R) := hD
  have h8 := zsz_le w
  refine lv_lload_n hx hb dX2_append_0 rfl (lv_at hl 2 rfl) ?_
  refine zci (zrSN (As := [.long w]) (rest := []) ⟨hx, hb, hml, hown, hts⟩ (zS hP hD hK hE hB hS) (c_X4_lengthOf  ) ⟨va_cnB 1 hts gX2_append_X4_lengthOf_n61 rfl rfl rfl (hE.1 _ (List.mem_of_getElem? (i := 8) rfl)) (hts (.initialized RX4) (List.mem_of_getElem? (i := 8) rfl)) hds_X4_lengthOf ⟨Nat.le_of_ble_eq_true rfl, Nat.le_of_ble_eq_true rfl⟩, (hts (.static yX4_lengthOf) (List.mem_of_getElem? (i := 7) rfl)), trivial⟩ rfl rfl hl.1 rfl (lv_room (Nat.le_of_ble_eq_true rfl)) dX2_append_1 ⟨Nat.le_of_ble_eq_true rfl, Nat.le_of_ble_eq_true rfl⟩) hS (fun H locs hP hD hS => ?_)
  have hP : va_P D vwCl (zWT cI cJ h (n, L) (kt, km, kl) (pt, pm, pl) (nu, le, ow, fo, run, wc, lc, tr, cl, tm, ms) (yl, yc, yt, co, pa, su, sc) mc ++ R) _ := hP
  have hD : va_D (zAb B) (zWT cI cJ h (n, L) (kt, km, kl) (pt, pm, pl) (nu, le, ow, fo, run, wc, lc, tr, cl, tm, ms) (yl, yc, yt, co, pa, su, sc) mc ++ R) := hD
  refine lv_istore (lv' := [(4, .int (nI (zsz w))), (0, .ref (h 11)), (1, .int x), (2, .long w)]) hx hb dX2_append_4 hl (by decide) rfl (fun ls hl => ?_)
  refine lv_iconst (v := 0) hx hb dX2_append_6 (by decide) ?_
  refine lv_istore (lv' := [(5, .int 0), (4, .int (nI (zsz w))), (0, .ref (h 11)), (1, .int x), (2, .long w)]) hx hb dX2_append_7 hl (by decide) rfl (fun ls hl => ?_)
  have hP : va_P D vwCl (zWT cI cJ h (n, L) (kt, km, kl) (pt, pm, pl) (nu, (zale le lc w 0), (zaow ow lc wc 0), (zafo fo w 0), run, wc, (lc + 0), tr, cl, tm, ms) (yl, yc, yt, co, pa, su, sc) mc ++ R) H := by rw [zale_0, zaow_0]; exact hP
  have hD : va_D (zAb B) (zWT cI cJ h (n, L) (kt, km, kl) (pt, pm, pl) (nu, (zale le lc w 0), (zaow ow lc wc 0), (zafo fo w 0), run, wc, (lc + 0), tr, cl, tm, ms) (yl, yc, yt, co, pa, su, sc) mc ++ R) := by rw [zale_0, zaow_0]; exact hD
  refine zloop (σ := (Nat)) (nL := 8) (fun x9 => (zWT cI cJ h (n, L) (kt, km, kl) (pt, pm, pl) (nu, (zale le lc w x9), (zaow ow lc wc x9), (zafo fo w x9), run, wc, (lc + x9), tr, cl, tm, ms) (yl, yc, yt, co, pa, su, sc) mc ++ R)) (fun x9 => [(5, .int (nI x9)), (4, .int (nI (zsz w))), (0, .ref (h 11)), (1, .int x), (2, .long w)]) (fun x9 => []) (fun x9 => x9 ≤ zsz w) (fun x9 => zsz w - x9) ?_ (0) (by omega) _ _ _ hP hD hS (lv_sub hl [0, 1, 2, 3, 4] rfl)
  rintro j hI ih H locs ls hP hD hS hl
  try dsimp only at hI ih hP hD hS hl ⊢
  refine lv_iload hx hb dX2_append_9 (lv_at hl 0 rfl) ?_
  refine lv_iload hx hb dX2_append_11 (lv_at hl 1 rfl) ?_
  refine lv_icmp_ge (tgt := 110) hx hb dX2_append_13 (by decide) (fun c_1 => ?_) (fun c_1 => ?_)
  · skip
    have c_1 : (zsz w) ≤ j := (nI_leI (a := (zsz w)) (b := j) (by omega) (by omega)).mp c_1
    obtain rfl : zsz w = j := by omega
    refine lv_aload_n hx hb dX2_append_110 rfl (lv_at hl 2 rfl) ?_
    refine va_get (ci := 2) (v := .ref (h 12)) (C := RX2) (T := TX2) (N := 11) hx hb hts hinX2 hown hK hP 11 rfl rfl 0 (by decide) (hts (.fieldLink RX2 9 "TypingTutor$Lesson" "numbers" "[I") (List.mem_of_getElem? (i := 6) rfl)) (fun _ h9 => h9) rfl dX2_append_111 ?_
    refine lv_aload_n hx hb dX2_append_114 rfl (lv_at hl 2 rfl) ?_
    refine va_get (ci := 2) (v := .int (nI wc)) (C := RX2) (T := TX2) (N := 11) hx hb hts hinX2 hown hK hP 11 rfl rfl 5 (by decide) (hts (.fieldLink RX2 28 "TypingTutor$Lesson" "wordCount" "I") (List.mem_of_getElem? (i := 5) rfl)) (fun _ h9 => h9) rfl dX2_append_115 ?_
    refine lv_iload_n hx hb dX2_append_118 rfl (lv_at hl 3 rfl) ?_
    refine zcv (zrSN (As := [.ref (h 12), .int (nI wc), .int x]) (rest := []) ⟨hx, hb, hml, hown, hts⟩ (zS hP hD hK hE hB hS) (c_X4_write (q0 := 12) rfl (by omega)) ⟨va_cnB 3 hts gX2_append_X4_write_n69 rfl rfl rfl (hE.1 _ (List.mem_of_getElem? (i := 10) rfl)) (hts (.initialized RX4) (List.mem_of_getElem? (i := 8) rfl)) hds_X4_write ⟨Nat.le_of_ble_eq_true rfl, Nat.le_of_ble_eq_true rfl⟩, (hts (.static yX4_write) (List.mem_of_getElem? (i := 15) rfl)), trivial⟩ rfl rfl hl.1 rfl (lv_room (Nat.le_of_ble_eq_true rfl)) dX2_append_119 ⟨Nat.le_of_ble_eq_true rfl, Nat.le_of_ble_eq_true rfl⟩) hS (fun H locs hP hD hS => ?_)
    have hP : va_P D vwCl (zWT cI cJ h (n, L) (kt, km, kl) (pt, pm, pl) ((zwr 6 nu (nI wc) x), (zale le lc w (zsz w)), (zaow ow lc wc (zsz w)), (zafo fo w (zsz w)), run, wc, (lc + (zsz w)), tr, cl, tm, ms) (yl, yc, yt, co, pa, su, sc) mc ++ R) _ := hP
    have hD : va_D (zAb B) (zWT cI cJ h (n, L) (kt, km, kl) (pt, pm, pl) ((zwr 6 nu (nI wc) x), (zale le lc w (zsz w)), (zaow ow lc wc (zsz w)), (zafo fo w (zsz w)), run, wc, (lc + (zsz w)), tr, cl, tm, ms) (yl, yc, yt, co, pa, su, sc) mc ++ R) := hD
    rw [show (zwr 6 nu (nI wc) x) = (upd nu wc x) from (zwr_in (n := 6) (k := wc) (f := nu) (v := x) (by omega) (by omega))] at hP hD
    have hP : va_P D vwCl (zWT cI cJ h (n, L) (kt, km, kl) (pt, pm, pl) ((upd nu wc x), (zale le lc w (zsz w)), (zaow ow lc wc (zsz w)), (zafo fo w (zsz w)), run, wc, (lc + (zsz w)), tr, cl, tm, ms) (yl, yc, yt, co, pa, su, sc) mc ++ R) _ := hP
    have hD : va_D (zAb B) (zWT cI cJ h (n, L) (kt, km, kl) (pt, pm, pl) ((upd nu wc x), (zale le lc w (zsz w)), (zaow ow lc wc (zsz w)), (zafo fo w (zsz w)), run, wc, (lc + (zsz w)), tr, cl, tm, ms) (yl, yc, yt, co, pa, su, sc) mc ++ R) := hD
    refine lv_aload_n hx hb dX2_append_122 rfl (lv_at hl 2 rfl) ?_
    refine lv_dup hx hb dX2_append_123 rfl ?_
    refine va_get (ci := 2) (v := .int (nI wc)) (C := RX2) (T := TX2) (N := 11) hx hb hts hinX2 hown hK hP 11 rfl rfl 5 (by decide) (hts (.fieldLink RX2 28 "TypingTutor$Lesson" "wordCount" "I") (List.mem_of_getElem? (i := 5) rfl)) (fun _ h9 => h9) rfl dX2_append_124 ?_
    refine lv_iconst (v := 1) hx hb dX2_append_127 (by decide) ?_
    refine lv_iadd hx hb dX2_append_128 ?_
    refine lv_topi (fun v_2 ev_2 => ?_)
    obtain rfl : v_2 = (nI (wc + 1)) := ev_2.trans (nI_add wc 1)
    refine va_put (ci := 2) (v := .int (nI (wc + 1))) (ty := .int) (C := RX2) (T := TX2) (N := 11) hx hb hts hinX2 tyX2 tyX2_ok nmX2 hown hK hP hD hS 11 rfl rfl 5 (by decide) (hts (.fieldLink RX2 28 "TypingTutor$Lesson" "wordCount" "I") (List.mem_of_getElem? (i := 5) rfl)) (fun _ h9 => h9) rfl (by decide +kernel) rfl rfl (Nat.le_of_ble_eq_true rfl) dX2_append_129 (fun H locs hP hD hS => ?_)
    have hP : va_P D vwCl (zWT cI cJ h (n, L) (kt, km, kl) (pt, pm, pl) ((upd nu wc x), (zale le lc w (zsz w)), (zaow ow lc wc (zsz w)), (zafo fo w (zsz w)), run, (wc + 1), (lc + (zsz w)), tr, cl, tm, ms) (yl, yc, yt, co, pa, su, sc) mc ++ R) _ := hP
    have hD : va_D (zAb B) (zWT cI cJ h (n, L) (kt, km, kl) (pt, pm, pl) ((upd nu wc x), (zale le lc w (zsz w)), (zaow ow lc wc (zsz w)), (zafo fo w (zsz w)), run, (wc + 1), (lc + (zsz w)), tr, cl, tm, ms) (yl, yc, yt, co, pa, su, sc) mc ++ R) := hD
    exact W.vret hx hb hr (fun t ht hW => ⟨⟨(), rfl, trivial, by rw [ht]; exact hP, hD⟩, hS.F ht⟩) hS.2.2 dX2_append_132
  · skip
    have c_1 : ¬ (zsz w) ≤ j := fun hh => c_1 ((nI_leI (a := (zsz w)) (b := j) (by omega) (by omega)).mpr hh)
    refine lv_lload_n hx hb dX2_append_16 rfl (lv_at hl 4 rfl) ?_
    refine lv_iload hx hb dX2_append_17 (lv_at hl 1 rfl) ?_
    refine lv_iload hx hb dX2_append_19 (lv_at hl 0 rfl) ?_
    refine zci (zrSN (As := [.long w, .int (nI (zsz w)), .int (nI j)]) (rest := []) ⟨hx, hb, hml, hown, hts⟩ (zS hP hD hK hE hB hS) (c_X4_letterOf (ln := (zsz w)) (k := j) (by omega) (by omega)) ⟨va_cnB 3 hts gX2_append_X4_letterOf_n65 rfl rfl rfl (hE.1 _ (List.mem_of_getElem? (i := 9) rfl)) (hts (.initialized RX4) (List.mem_of_getElem? (i := 8) rfl)) hds_X4_letterOf ⟨Nat.le_of_ble_eq_true rfl, Nat.le_of_ble_eq_true rfl⟩, (hts (.static yX4_letterOf) (List.mem_of_getElem? (i := 10) rfl)), trivial⟩ rfl rfl hl.1 rfl (lv_room (Nat.le_of_ble_eq_true rfl)) dX2_append_21 ⟨Nat.le_of_ble_eq_true rfl, Nat.le_of_ble_eq_true rfl⟩) hS (fun H locs hP hD hS => ?_)
    have hP : va_P D vwCl (zWT cI cJ h (n, L) (kt, km, kl) (pt, pm, pl) (nu, (zale le lc w j), (zaow ow lc wc j), (zafo fo w j), run, wc, (lc + j), tr, cl, tm, ms) (yl, yc, yt, co, pa, su, sc) mc ++ R) _ := hP
    have hD : va_D (zAb B) (zWT cI cJ h (n, L) (kt, km, kl) (pt, pm, pl) (nu, (zale le lc w j), (zaow ow lc wc j), (zafo fo w j), run, wc, (lc + j), tr, cl, tm, ms) (yl, yc, yt, co, pa, su, sc) mc ++ R) := hD
    refine lv_istore (lv' := [(6, .int (zlt w ((zsz w) - 1 - j))), (5, .int (nI j)), (4, .int (nI (zsz w))), (0, .ref (h 11)), (1, .int x), (2, .long w)]) hx hb dX2_append_24 hl (by decide) rfl (fun ls hl => ?_)
    refine lv_iload hx hb dX2_append_26 (lv_at hl 1 rfl) ?_
    refine lv_if_le (tgt := 66) hx hb dX2_append_28 (by decide) (fun c_3 => ?_) (fun c_3 => ?_)
    · skip
      have c_3 : j ≤ 0 := (nI_leI (a := j) (b := 0) (by omega) (by omega)).mp c_3
      refine lv_aload_n hx hb dX2_append_66 rfl (lv_at hl 3 rfl) ?_
      refine va_get (ci := 2) (v := .ref (h 13)) (C := RX2) (T := TX2) (N := 11) hx hb hts hinX2 hown hK hP 11 rfl rfl 1 (by decide) (hts (.fieldLink RX2 15 "TypingTutor$Lesson" "letters" "[I") (List.mem_of_getElem? (i := 2) rfl)) (fun _ h9 => h9) rfl dX2_append_67 ?_
      refine lv_aload_n hx hb dX2_append_70 rfl (lv_at hl 3 rfl) ?_
      refine va_get (ci := 2) (v := .int (nI (lc + j))) (C := RX2) (T := TX2) (N := 11) hx hb hts hinX2 hown hK hP 11 rfl rfl 6 (by decide) (hts (.fieldLink RX2 32 "TypingTutor$Lesson" "letterCount" "I") (List.mem_of_getElem? (i := 3) rfl)) (fun _ h9 => h9) rfl dX2_append_71 ?_
      refine lv_iload hx hb dX2_append_74 (lv_at hl 0 rfl) ?_
      refine zcv (zrSN (As := [.ref (h 13), .int (nI (lc + j)), .int (zlt w ((zsz w) - 1 - j))]) (rest := []) ⟨hx, hb, hml, hown, hts⟩ (zS hP hD hK hE hB hS) (c_X4_write (q0 := 13) rfl (by omega)) ⟨va_cnB 3 hts gX2_append_X4_write_n69 rfl rfl rfl (hE.1 _ (List.mem_of_getElem? (i := 10) rfl)) (hts (.initialized RX4) (List.mem_of_getElem? (i := 8) rfl)) hds_X4_write ⟨Nat.le_of_ble_eq_true rfl, Nat.le_of_ble_eq_true rfl⟩, (hts (.static yX4_write) (List.mem_of_getElem? (i := 15) rfl)), trivial⟩ rfl rfl hl.1 rfl (lv_room (Nat.le_of_ble_eq_true rfl)) dX2_append_76 ⟨Nat.le_of_ble_eq_true rfl, Nat.le_of_ble_eq_true rfl⟩) hS (fun H locs hP hD hS => ?_)
      have hP : va_P D vwCl (zWT cI cJ h (n, L) (kt, km, kl) (pt, pm, pl) (nu, (zwr 48 (zale le lc w j) (nI (lc + j)) (zlt w ((zsz w) - 1 - j))), (zaow ow lc wc j), (zafo fo w j), run, wc, (lc + j), tr, cl, tm, ms) (yl, yc, yt, co, pa, su, sc) mc ++ R) _ := hP
      have hD : va_D (zAb B) (zWT cI cJ h (n, L) (kt, km, kl) (pt, pm, pl) (nu, (zwr 48 (zale le lc w j) (nI (lc + j)) (zlt w ((zsz w) - 1 - j))), (zaow ow lc wc j), (zafo fo w j), run, wc, (lc + j), tr, cl, tm, ms) (yl, yc, yt, co, pa, su, sc) mc ++ R) := hD
      rw [show (zwr 48 (zale le lc w j) (nI (lc + j)) (zlt w ((zsz w) - 1 - j))) = (upd (zale le lc w j) (lc + j) (zlt w ((zsz w) - 1 - j))) from (zwr_in (n := 48) (k := (lc + j)) (f := (zale le lc w j)) (v := (zlt w ((zsz w) - 1 - j))) (by omega) (by omega))] at hP hD
      have hP : va_P D vwCl (zWT cI cJ h (n, L) (kt, km, kl) (pt, pm, pl) (nu, (upd (zale le lc w j) (lc + j) (zlt w ((zsz w) - 1 - j))), (zaow ow lc wc j), (zafo fo w j), run, wc, (lc + j), tr, cl, tm, ms) (yl, yc, yt, co, pa, su, sc) mc ++ R) _ := hP
      have hD : va_D (zAb B) (zWT cI cJ h (n, L) (kt, km, kl) (pt, pm, pl) (nu, (upd (zale le lc w j) (lc + j) (zlt w ((zsz w) - 1 - j))), (zaow ow lc wc j), (zafo fo w j), run, wc, (lc + j), tr, cl, tm, ms) (yl, yc, yt, co, pa, su, sc) mc ++ R) := hD
      refine lv_aload_n hx hb dX2_append_79 rfl (lv_at hl 3 rfl) ?_
      refine va_get (ci := 2) (v := .ref (h 14)) (C := RX2) (T := TX2) (N := 11) hx hb hts hinX2 hown hK hP 11 rfl rfl 2 (by decide) (hts (.fieldLink RX2 18 "TypingTutor$Lesson" "owners" "[I") (List.mem_of_getElem? (i := 4) rfl)) (fun _ h9 => h9) rfl dX2_append_80 ?_
      refine lv_aload_n hx hb dX2_append_83 rfl (lv_at hl 3 rfl) ?_
      refine va_get (ci := 2) (v := .int (nI (lc + j))) (C := RX2) (T := TX2) (N := 11) hx hb hts hinX2 hown hK hP 11 rfl rfl 6 (by decide) (hts (.fieldLink RX2 32 "TypingTutor$Lesson" "letterCount" "I") (List.mem_of_getElem? (i := 3) rfl)) (fun _ h9 => h9) rfl dX2_append_84 ?_
      refine lv_aload_n hx hb dX2_append_87 rfl (lv_at hl 3 rfl) ?_
      refine va_get (ci := 2) (v := .int (nI wc)) (C := RX2) (T := TX2) (N := 11) hx hb hts hinX2 hown hK hP 11 rfl rfl 5 (by decide) (hts (.fieldLink RX2 28 "TypingTutor$Lesson" "wordCount" "I") (List.mem_of_getElem? (i := 5) rfl)) (fun _ h9 => h9) rfl dX2_append_88 ?_
      refine zcv (zrSN (As := [.ref (h 14), .int (nI (lc + j)), .int (nI wc)]) (rest := []) ⟨hx, hb, hml, hown, hts⟩ (zS hP hD hK hE hB hS) (c_X4_write (q0 := 14) rfl (by omega)) ⟨va_cnB 3 hts gX2_append_X4_write_n69 rfl rfl rfl (hE.1 _ (List.mem_of_getElem? (i := 10) rfl)) (hts (.initialized RX4) (List.mem_of_getElem? (i := 8) rfl)) hds_X4_write ⟨Nat.le_of_ble_eq_true rfl, Nat.le_of_ble_eq_true rfl⟩, (hts (.static yX4_write) (List.mem_of_getElem? (i := 15) rfl)), trivial⟩ rfl rfl hl.1 rfl (lv_room (Nat.le_of_ble_eq_true rfl)) dX2_append_91 ⟨Nat.le_of_ble_eq_true rfl, Nat.le_of_ble_eq_true rfl⟩) hS (fun H locs hP hD hS => ?_)
      have hP : va_P D vwCl (zWT cI cJ h (n, L) (kt, km, kl) (pt, pm, pl) (nu, (upd (zale le lc w j) (lc + j) (zlt w ((zsz w) - 1 - j))), (zwr 48 (zaow ow lc wc j) (nI (lc + j)) (nI wc)), (zafo fo w j), run, wc, (lc + j), tr, cl, tm, ms) (yl, yc, yt, co, pa, su, sc) mc ++ R) _ := hP
      have hD : va_D (zAb B) (zWT cI cJ h (n, L) (kt, km, kl) (pt, pm, pl) (nu, (upd (zale le lc w j) (lc + j) (zlt w ((zsz w) - 1 - j))), (zwr 48 (zaow ow lc wc j) (nI (lc + j)) (nI wc)), (zafo fo w j), run, wc, (lc + j), tr, cl, tm, ms) (yl, yc, yt, co, pa, su, sc) mc ++ R) := hD
      rw [show (zwr 48 (zaow ow lc wc j) (nI (lc + j)) (nI wc)) = (upd (zaow ow lc wc j) (lc + j) (nI wc)) from (zwr_in (n := 48) (k := (lc + j)) (f := (zaow ow lc wc j)) (v := (nI wc)) (by omega) (by omega))] at hP hD
      have hP : va_P D vwCl (zWT cI cJ h (n, L) (kt, km, kl) (pt, pm, pl) (nu, (upd (zale le lc w j) (lc + j) (zlt w ((zsz w) - 1 - j))), (upd (zaow ow lc wc j) (lc + j) (nI wc)), (zafo fo w j), run, wc, (lc + j), tr, cl, tm, ms) (yl, yc, yt, co, pa, su, sc) mc ++ R) _ := hP
      have hD : va_D (zAb B) (zWT cI cJ h (n, L) (kt, km, kl) (pt, pm, pl) (nu, (upd (zale le lc w j) (lc + j) (zlt w ((zsz w) - 1 - j))), (upd (zaow ow lc wc j) (lc + j) (nI wc)), (zafo fo w j), run, wc, (lc + j), tr, cl, tm, ms) (yl, yc, yt, co, pa, su, sc) mc ++ R) := hD
      refine lv_aload_n hx hb dX2_append_94 rfl (lv_at hl 3 rfl) ?_
      refine lv_dup hx hb dX2_append_95 rfl ?_
      refine va_get (ci := 2) (v := .int (nI (lc + j))) (C := RX2) (T := TX2) (N := 11) hx hb hts hinX2 hown hK hP 11 rfl rfl 6 (by decide) (hts (.fieldLink RX2 32 "TypingTutor$Lesson" "letterCount" "I") (List.mem_of_getElem? (i := 3) rfl)) (fun _ h9 => h9) rfl dX2_append_96 ?_
      refine lv_iconst (v := 1) hx hb dX2_append_99 (by decide) ?_
      refine lv_iadd hx hb dX2_append_100 ?_
      refine lv_topi (fun v_4 ev_4 => ?_)
      obtain rfl : v_4 = (nI ((lc + j) + 1)) := ev_4.trans (nI_add (lc + j) 1)
      refine va_put (ci := 2) (v := .int (nI ((lc + j) + 1))) (ty := .int) (C := RX2) (T := TX2) (N := 11) hx hb hts hinX2 tyX2 tyX2_ok nmX2 hown hK hP hD hS 11 rfl rfl 6 (by decide) (hts (.fieldLink RX2 32 "TypingTutor$Lesson" "letterCount" "I") (List.mem_of_getElem? (i := 3) rfl)) (fun _ h9 => h9) rfl (by decide +kernel) rfl rfl (Nat.le_of_ble_eq_true rfl) dX2_append_101 (fun H locs hP hD hS => ?_)
      have hP : va_P D vwCl (zWT cI cJ h (n, L) (kt, km, kl) (pt, pm, pl) (nu, (upd (zale le lc w j) (lc + j) (zlt w ((zsz w) - 1 - j))), (upd (zaow ow lc wc j) (lc + j) (nI wc)), (zafo fo w j), run, wc, ((lc + j) + 1), tr, cl, tm, ms) (yl, yc, yt, co, pa, su, sc) mc ++ R) _ := hP
      have hD : va_D (zAb B) (zWT cI cJ h (n, L) (kt, km, kl) (pt, pm, pl) (nu, (upd (zale le lc w j) (lc + j) (zlt w ((zsz w) - 1 - j))), (upd (zaow ow lc wc j) (lc + j) (nI wc)), (zafo fo w j), run, wc, ((lc + j) + 1), tr, cl, tm, ms) (yl, yc, yt, co, pa, su, sc) mc ++ R) := hD
      refine lv_iinc (v := (nI (j + 1))) (lv' := [(5, .int (nI (j + 1))), (6, .int (zlt w ((zsz w) - 1 - j))), (4, .int (nI (zsz w))), (0, .ref (h 11)), (1, .int x), (2, .long w)]) hx hb dX2_append_104 hl (k := 1) rfl (nI_add j 1) (by decide) rfl (fun ls hl => ?_)
      refine lv_goto (tgt := 9) hx hb dX2_append_107 (by decide) ?_
      have hP : va_P D vwCl (zWT cI cJ h (n, L) (kt, km, kl) (pt, pm, pl) (nu, (zale le lc w (j + 1)), (zaow ow lc wc (j + 1)), (zafo fo w (j + 1)), run, wc, (lc + (j + 1)), tr, cl, tm, ms) (yl, yc, yt, co, pa, su, sc) mc ++ R) H := by rw [zale_s, zaow_s, zafo_1 (fun hh => absurd c_3 (Nat.not_le.mpr hh))]; exact hP
      have hD : va_D (zAb B) (zWT cI cJ h (n, L) (kt, km, kl) (pt, pm, pl) (nu, (zale le lc w (j + 1)), (zaow ow lc wc (j + 1)), (zafo fo w (j + 1)), run, wc, (lc + (j + 1)), tr, cl, tm, ms) (yl, yc, yt, co, pa, su, sc) mc ++ R) := by rw [zale_s, zaow_s, zafo_1 (fun hh => absurd c_3 (Nat.not_le.mpr hh))]; exact hD
      exact ih (j + 1) (by omega) (by omega) _ _ _ hP hD hS (lv_sub hl [0, 2, 3, 4, 5] rfl)
    · skip
      have c_3 : ¬ j ≤ 0 := fun hh => c_3 ((nI_leI (a := j) (b := 0) (by omega) (by omega)).mpr hh)
      refine lv_lload_n hx hb dX2_append_31 rfl (lv_at hl 5 rfl) ?_
      refine lv_iload hx hb dX2_append_32 (lv_at hl 2 rfl) ?_
      refine lv_iload hx hb dX2_append_34 (lv_at hl 1 rfl) ?_
      refine lv_iconst (v := 1) hx hb dX2_append_36 (by decide) ?_
      refine lv_isub hx hb dX2_append_37 ?_
      refine lv_topi (fun v_5 ev_5 => ?_)
      obtain rfl : v_5 = (nI (j - 1)) := ev_5.trans (pk_sub (a := j) (b := 1) (by omega))
      refine zci (zrSN (As := [.long w, .int (nI (zsz w)), .int (nI (j - 1))]) (rest := []) ⟨hx, hb, hml, hown, hts⟩ (zS hP hD hK hE hB hS) (c_X4_letterOf (ln := (zsz w)) (k := (j - 1)) (by omega) (by omega)) ⟨va_cnB 3 hts gX2_append_X4_letterOf_n65 rfl rfl rfl (hE.1 _ (List.mem_of_getElem? (i := 9) rfl)) (hts (.initialized RX4) (List.mem_of_getElem? (i := 8) rfl)) hds_X4_letterOf ⟨Nat.le_of_ble_eq_true rfl, Nat.le_of_ble_eq_true rfl⟩, (hts (.static yX4_letterOf) (List.mem_of_getElem? (i := 10) rfl)), trivial⟩ rfl rfl hl.1 rfl (lv_room (Nat.le_of_ble_eq_true rfl)) dX2_append_38 ⟨Nat.le_of_ble_eq_true rfl, Nat.le_of_ble_eq_true rfl⟩) hS (fun H locs hP hD hS => ?_)
      have hP : va_P D vwCl (zWT cI cJ h (n, L) (kt, km, kl) (pt, pm, pl) (nu, (zale le lc w j), (zaow ow lc wc j), (zafo fo w j), run, wc, (lc + j), tr, cl, tm, ms) (yl, yc, yt, co, pa, su, sc) mc ++ R) _ := hP
      have hD : va_D (zAb B) (zWT cI cJ h (n, L) (kt, km, kl) (pt, pm, pl) (nu, (zale le lc w j), (zaow ow lc wc j), (zafo fo w j), run, wc, (lc + j), tr, cl, tm, ms) (yl, yc, yt, co, pa, su, sc) mc ++ R) := hD
      refine lv_istore (lv' := [(7, .int (zlt w ((zsz w) - 1 - (j - 1)))), (6, .int (zlt w ((zsz w) - 1 - j))), (5, .int (nI j)), (4, .int (nI (zsz w))), (0, .ref (h 11)), (1, .int x), (2, .long w)]) hx hb dX2_append_41 hl (by decide) rfl (fun ls hl => ?_)
      refine lv_aload_n hx hb dX2_append_43 rfl (lv_at hl 4 rfl) ?_
      refine va_get (ci := 2) (v := .ref (h 15)) (C := RX2) (T := TX2) (N := 11) hx hb hts hinX2 hown hK hP 11 rfl rfl 3 (by decide) (hts (.fieldLink RX2 21 "TypingTutor$Lesson" "followers" "[I") (List.mem_of_getElem? (i := 1) rfl)) (fun _ h9 => h9) rfl dX2_append_44 ?_
      refine lv_iload hx hb dX2_append_47 (lv_at hl 0 rfl) ?_
      refine lv_aload_n hx hb dX2_append_49 rfl (lv_at hl 4 rfl) ?_
      refine va_get (ci := 2) (v := .ref (h 15)) (C := RX2) (T := TX2) (N := 11) hx hb hts hinX2 hown hK hP 11 rfl rfl 3 (by decide) (hts (.fieldLink RX2 21 "TypingTutor$Lesson" "followers" "[I") (List.mem_of_getElem? (i := 1) rfl)) (fun _ h9 => h9) rfl dX2_append_50 ?_
      refine lv_iload hx hb dX2_append_53 (lv_at hl 0 rfl) ?_
      refine zci (zrSN (As := [.ref (h 15), .int (zlt w ((zsz w) - 1 - (j - 1)))]) (rest := [.int (zlt w ((zsz w) - 1 - (j - 1))), .ref (h 15)]) ⟨hx, hb, hml, hown, hts⟩ (zS hP hD hK hE hB hS) (c_X4_read (q0 := 15) rfl (by omega)) ⟨va_cnB 2 hts gX2_append_X4_read_n47 rfl rfl rfl (hE.1 _ (List.mem_of_getElem? (i := 7) rfl)) (hts (.initialized RX4) (List.mem_of_getElem? (i := 8) rfl)) hds_X4_read ⟨Nat.le_of_ble_eq_true rfl, Nat.le_of_ble_eq_true rfl⟩, (hts (.static yX4_read) (List.mem_of_getElem? (i := 13) rfl)), trivial⟩ rfl rfl hl.1 rfl (lv_room (Nat.le_of_ble_eq_true rfl)) dX2_append_55 ⟨Nat.le_of_ble_eq_true rfl, Nat.le_of_ble_eq_true rfl⟩) hS (fun H locs hP hD hS => ?_)
      have hP : va_P D vwCl (zWT cI cJ h (n, L) (kt, km, kl) (pt, pm, pl) (nu, (zale le lc w j), (zaow ow lc wc j), (zafo fo w j), run, wc, (lc + j), tr, cl, tm, ms) (yl, yc, yt, co, pa, su, sc) mc ++ R) _ := hP
      have hD : va_D (zAb B) (zWT cI cJ h (n, L) (kt, km, kl) (pt, pm, pl) (nu, (zale le lc w j), (zaow ow lc wc j), (zafo fo w j), run, wc, (lc + j), tr, cl, tm, ms) (yl, yc, yt, co, pa, su, sc) mc ++ R) := hD
      refine lv_iconst (v := 1) hx hb dX2_append_58 (by decide) ?_
      refine lv_iload hx hb dX2_append_59 (lv_at hl 1 rfl) ?_
      refine lv_ishl hx hb dX2_append_61 ?_
      refine lv_ior hx hb dX2_append_62 ?_
      refine zcv (zrSN (As := [.ref (h 15), .int (zlt w ((zsz w) - 1 - (j - 1))), .int ((zrd 26 (zafo fo w j) (zlt w ((zsz w) - 1 - (j - 1)))) ||| (1 <<< ((zlt w ((zsz w) - 1 - j)) &&& 31)))]) (rest := []) ⟨hx, hb, hml, hown, hts⟩ (zS hP hD hK hE hB hS) (c_X4_write (q0 := 15) rfl (by omega)) ⟨va_cnB 3 hts gX2_append_X4_write_n69 rfl rfl rfl (hE.1 _ (List.mem_of_getElem? (i := 10) rfl)) (hts (.initialized RX4) (List.mem_of_getElem? (i := 8) rfl)) hds_X4_write ⟨Nat.le_of_ble_eq_true rfl, Nat.le_of_ble_eq_true rfl⟩, (hts (.static yX4_write) (List.mem_of_getElem? (i := 15) rfl)), trivial⟩ rfl rfl hl.1 rfl (lv_room (Nat.le_of_ble_eq_true rfl)) dX2_append_63 ⟨Nat.le_of_ble_eq_true rfl, Nat.le_of_ble_eq_true rfl⟩) hS (fun H locs hP hD hS => ?_)
      have hP : va_P D vwCl (zWT cI cJ h (n, L) (kt, km, kl) (pt, pm, pl) (nu, (zale le lc w j), (zaow ow lc wc j), (zwr 26 (zafo fo w j) (zlt w ((zsz w) - 1 - (j - 1))) ((zrd 26 (zafo fo w j) (zlt w ((zsz w) - 1 - (j - 1)))) ||| (1 <<< ((zlt w ((zsz w) - 1 - j)) &&& 31)))), run, wc, (lc + j), tr, cl, tm, ms) (yl, yc, yt, co, pa, su, sc) mc ++ R) _ := hP
      have hD : va_D (zAb B) (zWT cI cJ h (n, L) (kt, km, kl) (pt, pm, pl) (nu, (zale le lc w j), (zaow ow lc wc j), (zwr 26 (zafo fo w j) (zlt w ((zsz w) - 1 - (j - 1))) ((zrd 26 (zafo fo w j) (zlt w ((zsz w) - 1 - (j - 1)))) ||| (1 <<< ((zlt w ((zsz w) - 1 - j)) &&& 31)))), run, wc, (lc + j), tr, cl, tm, ms) (yl, yc, yt, co, pa, su, sc) mc ++ R) := hD
      refine lv_aload_n hx hb dX2_append_66 rfl (lv_at hl 4 rfl) ?_
      refine va_get (ci := 2) (v := .ref (h 13)) (C := RX2) (T := TX2) (N := 11) hx hb hts hinX2 hown hK hP 11 rfl rfl 1 (by decide) (hts (.fieldLink RX2 15 "TypingTutor$Lesson" "letters" "[I") (List.mem_of_getElem? (i := 2) rfl)) (fun _ h9 => h9) rfl dX2_append_67 ?_
      refine lv_aload_n hx hb dX2_append_70 rfl (lv_at hl 4 rfl) ?_
      refine va_get (ci := 2) (v := .int (nI (lc + j))) (C := RX2) (T := TX2) (N := 11) hx hb hts hinX2 hown hK hP 11 rfl rfl 6 (by decide) (hts (.fieldLink RX2 32 "TypingTutor$Lesson" "letterCount" "I") (List.mem_of_getElem? (i := 3) rfl)) (fun _ h9 => h9) rfl dX2_append_71 ?_
      refine lv_iload hx hb dX2_append_74 (lv_at hl 1 rfl) ?_
      refine zcv (zrSN (As := [.ref (h 13), .int (nI (lc + j)), .int (zlt w ((zsz w) - 1 - j))]) (rest := []) ⟨hx, hb, hml, hown, hts⟩ (zS hP hD hK hE hB hS) (c_X4_write (q0 := 13) rfl (by omega)) ⟨va_cnB 3 hts gX2_append_X4_write_n69 rfl rfl rfl (hE.1 _ (List.mem_of_getElem? (i := 10) rfl)) (hts (.initialized RX4) (List.mem_of_getElem? (i := 8) rfl)) hds_X4_write ⟨Nat.le_of_ble_eq_true rfl, Nat.le_of_ble_eq_true rfl⟩, (hts (.static yX4_write) (List.mem_of_getElem? (i := 15) rfl)), trivial⟩ rfl rfl hl.1 rfl (lv_room (Nat.le_of_ble_eq_true rfl)) dX2_append_76 ⟨Nat.le_of_ble_eq_true rfl, Nat.le_of_ble_eq_true rfl⟩) hS (fun H locs hP hD hS => ?_)
      have hP : va_P D vwCl (zWT cI cJ h (n, L) (kt, km, kl) (pt, pm, pl) (nu, (zwr 48 (zale le lc w j) (nI (lc + j)) (zlt w ((zsz w) - 1 - j))), (zaow ow lc wc j), (zwr 26 (zafo fo w j) (zlt w ((zsz w) - 1 - (j - 1))) ((zrd 26 (zafo fo w j) (zlt w ((zsz w) - 1 - (j - 1)))) ||| (1 <<< ((zlt w ((zsz w) - 1 - j)) &&& 31)))), run, wc, (lc + j), tr, cl, tm, ms) (yl, yc, yt, co, pa, su, sc) mc ++ R) _ := hP
      have hD : va_D (zAb B) (zWT cI cJ h (n, L) (kt, km, kl) (pt, pm, pl) (nu, (zwr 48 (zale le lc w j) (nI (lc + j)) (zlt w ((zsz w) - 1 - j))), (zaow ow lc wc j), (zwr 26 (zafo fo w j) (zlt w ((zsz w) - 1 - (j - 1))) ((zrd 26 (zafo fo w j) (zlt w ((zsz w) - 1 - (j - 1)))) ||| (1 <<< ((zlt w ((zsz w) - 1 - j)) &&& 31)))), run, wc, (lc + j), tr, cl, tm, ms) (yl, yc, yt, co, pa, su, sc) mc ++ R) := hD
      rw [show (zwr 48 (zale le lc w j) (nI (lc + j)) (zlt w ((zsz w) - 1 - j))) = (upd (zale le lc w j) (lc + j) (zlt w ((zsz w) - 1 - j))) from (zwr_in (n := 48) (k := (lc + j)) (f := (zale le lc w j)) (v := (zlt w ((zsz w) - 1 - j))) (by omega) (by omega))] at hP hD
      have hP : va_P D vwCl (zWT cI cJ h (n, L) (kt, km, kl) (pt, pm, pl) (nu, (upd (zale le lc w j) (lc + j) (zlt w ((zsz w) - 1 - j))), (zaow ow lc wc j), (zwr 26 (zafo fo w j) (zlt w ((zsz w) - 1 - (j - 1))) ((zrd 26 (zafo fo w j) (zlt w ((zsz w) - 1 - (j - 1)))) ||| (1 <<< ((zlt w ((zsz w) - 1 - j)) &&& 31)))), run, wc, (lc + j), tr, cl, tm, ms) (yl, yc, yt, co, pa, su, sc) mc ++ R) _ := hP
      have hD : va_D (zAb B) (zWT cI cJ h (n, L) (kt, km, kl) (pt, pm, pl) (nu, (upd (zale le lc w j) (lc + j) (zlt w ((zsz w) - 1 - j))), (zaow ow lc wc j), (zwr 26 (zafo fo w j) (zlt w ((zsz w) - 1 - (j - 1))) ((zrd 26 (zafo fo w j) (zlt w ((zsz w) - 1 - (j - 1)))) ||| (1 <<< ((zlt w ((zsz w) - 1 - j)) &&& 31)))), run, wc, (lc + j), tr, cl, tm, ms) (yl, yc, yt, co, pa, su, sc) mc ++ R) := hD
      refine lv_aload_n hx hb dX2_append_79 rfl (lv_at hl 4 rfl) ?_
      refine va_get (ci := 2) (v := .ref (h 14)) (C := RX2) (T := TX2) (N := 11) hx hb hts hinX2 hown hK hP 11 rfl rfl 2 (by decide) (hts (.fieldLink RX2 18 "TypingTutor$Lesson" "owners" "[I") (List.mem_of_getElem? (i := 4) rfl)) (fun _ h9 => h9) rfl dX2_append_80 ?_
      refine lv_aload_n hx hb dX2_append_83 rfl (lv_at hl 4 rfl) ?_
      refine va_get (ci := 2) (v := .int (nI (lc + j))) (C := RX2) (T := TX2) (N := 11) hx hb hts hinX2 hown hK hP 11 rfl rfl 6 (by decide) (hts (.fieldLink RX2 32 "TypingTutor$Lesson" "letterCount" "I") (List.mem_of_getElem? (i := 3) rfl)) (fun _ h9 => h9) rfl dX2_append_84 ?_
      refine lv_aload_n hx hb dX2_append_87 rfl (lv_at hl 4 rfl) ?_
      refine va_get (ci := 2) (v := .int (nI wc)) (C := RX2) (T := TX2) (N := 11) hx hb hts hinX2 hown hK hP 11 rfl rfl 5 (by decide) (hts (.fieldLink RX2 28 "TypingTutor$Lesson" "wordCount" "I") (List.mem_of_getElem? (i := 5) rfl)) (fun _ h9 => h9) rfl dX2_append_88 ?_
      refine zcv (zrSN (As := [.ref (h 14), .int (nI (lc + j)), .int (nI wc)]) (rest := []) ⟨hx, hb, hml, hown, hts⟩ (zS hP hD hK hE hB hS) (c_X4_write (q0 := 14) rfl (by omega)) ⟨va_cnB 3 hts gX2_append_X4_write_n69 rfl rfl rfl (hE.1 _ (List.mem_of_getElem? (i := 10) rfl)) (hts (.initialized RX4) (List.mem_of_getElem? (i := 8) rfl)) hds_X4_write ⟨Nat.le_of_ble_eq_true rfl, Nat.le_of_ble_eq_true rfl⟩, (hts (.static yX4_write) (List.mem_of_getElem? (i := 15) rfl)), trivial⟩ rfl rfl hl.1 rfl (lv_room (Nat.le_of_ble_eq_true rfl)) dX2_append_91 ⟨Nat.le_of_ble_eq_true rfl, Nat.le_of_ble_eq_true rfl⟩) hS (fun H locs hP hD hS => ?_)
      have hP : va_P D vwCl (zWT cI cJ h (n, L) (kt, km, kl) (pt, pm, pl) (nu, (upd (zale le lc w j) (lc + j) (zlt w ((zsz w) - 1 - j))), (zwr 48 (zaow ow lc wc j) (nI (lc + j)) (nI wc)), (zwr 26 (zafo fo w j) (zlt w ((zsz w) - 1 - (j - 1))) ((zrd 26 (zafo fo w j) (zlt w ((zsz w) - 1 - (j - 1)))) ||| (1 <<< ((zlt w ((zsz w) - 1 - j)) &&& 31)))), run, wc, (lc + j), tr, cl, tm, ms) (yl, yc, yt, co, pa, su, sc) mc ++ R) _ := hP
      have hD : va_D (zAb B) (zWT cI cJ h (n, L) (kt, km, kl) (pt, pm, pl) (nu, (upd (zale le lc w j) (lc + j) (zlt w ((zsz w) - 1 - j))), (zwr 48 (zaow ow lc wc j) (nI (lc + j)) (nI wc)), (zwr 26 (zafo fo w j) (zlt w ((zsz w) - 1 - (j - 1))) ((zrd 26 (zafo fo w j) (zlt w ((zsz w) - 1 - (j - 1)))) ||| (1 <<< ((zlt w ((zsz w) - 1 - j)) &&& 31)))), run, wc, (lc + j), tr, cl, tm, ms) (yl, yc, yt, co, pa, su, sc) mc ++ R) := hD
      rw [show (zwr 48 (zaow ow lc wc j) (nI (lc + j)) (nI wc)) = (upd (zaow ow lc wc j) (lc + j) (nI wc)) from (zwr_in (n := 48) (k := (lc + j)) (f := (zaow ow lc wc j)) (v := (nI wc)) (by omega) (by omega))] at hP hD
      have hP : va_P D vwCl (zWT cI cJ h (n, L) (kt, km, kl) (pt, pm, pl) (nu, (upd (zale le lc w j) (lc + j) (zlt w ((zsz w) - 1 - j))), (upd (zaow ow lc wc j) (lc + j) (nI wc)), (zwr 26 (zafo fo w j) (zlt w ((zsz w) - 1 - (j - 1))) ((zrd 26 (zafo fo w j) (zlt w ((zsz w) - 1 - (j - 1)))) ||| (1 <<< ((zlt w ((zsz w) - 1 - j)) &&& 31)))), run, wc, (lc + j), tr, cl, tm, ms) (yl, yc, yt, co, pa, su, sc) mc ++ R) _ := hP
      have hD : va_D (zAb B) (zWT cI cJ h (n, L) (kt, km, kl) (pt, pm, pl) (nu, (upd (zale le lc w j) (lc + j) (zlt w ((zsz w) - 1 - j))), (upd (zaow ow lc wc j) (lc + j) (nI wc)), (zwr 26 (zafo fo w j) (zlt w ((zsz w) - 1 - (j - 1))) ((zrd 26 (zafo fo w j) (zlt w ((zsz w) - 1 - (j - 1)))) ||| (1 <<< ((zlt w ((zsz w) - 1 - j)) &&& 31)))), run, wc, (lc + j), tr, cl, tm, ms) (yl, yc, yt, co, pa, su, sc) mc ++ R) := hD
      refine lv_aload_n hx hb dX2_append_94 rfl (lv_at hl 4 rfl) ?_
      refine lv_dup hx hb dX2_append_95 rfl ?_
      refine va_get (ci := 2) (v := .int (nI (lc + j))) (C := RX2) (T := TX2) (N := 11) hx hb hts hinX2 hown hK hP 11 rfl rfl 6 (by decide) (hts (.fieldLink RX2 32 "TypingTutor$Lesson" "letterCount" "I") (List.mem_of_getElem? (i := 3) rfl)) (fun _ h9 => h9) rfl dX2_append_96 ?_
      refine lv_iconst (v := 1) hx hb dX2_append_99 (by decide) ?_
      refine lv_iadd hx hb dX2_append_100 ?_
      refine lv_topi (fun v_6 ev_6 => ?_)
      obtain rfl : v_6 = (nI ((lc + j) + 1)) := ev_6.trans (nI_add (lc + j) 1)
      refine va_put (ci := 2) (v := .int (nI ((lc + j) + 1))) (ty := .int) (C := RX2) (T := TX2) (N := 11) hx hb hts hinX2 tyX2 tyX2_ok nmX2 hown hK hP hD hS 11 rfl rfl 6 (by decide) (hts (.fieldLink RX2 32 "TypingTutor$Lesson" "letterCount" "I") (List.mem_of_getElem? (i := 3) rfl)) (fun _ h9 => h9) rfl (by decide +kernel) rfl rfl (Nat.le_of_ble_eq_true rfl) dX2_append_101 (fun H locs hP hD hS => ?_)
      have hP : va_P D vwCl (zWT cI cJ h (n, L) (kt, km, kl) (pt, pm, pl) (nu, (upd (zale le lc w j) (lc + j) (zlt w ((zsz w) - 1 - j))), (upd (zaow ow lc wc j) (lc + j) (nI wc)), (zwr 26 (zafo fo w j) (zlt w ((zsz w) - 1 - (j - 1))) ((zrd 26 (zafo fo w j) (zlt w ((zsz w) - 1 - (j - 1)))) ||| (1 <<< ((zlt w ((zsz w) - 1 - j)) &&& 31)))), run, wc, ((lc + j) + 1), tr, cl, tm, ms) (yl, yc, yt, co, pa, su, sc) mc ++ R) _ := hP
      have hD : va_D (zAb B) (zWT cI cJ h (n, L) (kt, km, kl) (pt, pm, pl) (nu, (upd (zale le lc w j) (lc + j) (zlt w ((zsz w) - 1 - j))), (upd (zaow ow lc wc j) (lc + j) (nI wc)), (zwr 26 (zafo fo w j) (zlt w ((zsz w) - 1 - (j - 1))) ((zrd 26 (zafo fo w j) (zlt w ((zsz w) - 1 - (j - 1)))) ||| (1 <<< ((zlt w ((zsz w) - 1 - j)) &&& 31)))), run, wc, ((lc + j) + 1), tr, cl, tm, ms) (yl, yc, yt, co, pa, su, sc) mc ++ R) := hD
      refine lv_iinc (v := (nI (j + 1))) (lv' := [(5, .int (nI (j + 1))), (7, .int (zlt w ((zsz w) - 1 - (j - 1)))), (6, .int (zlt w ((zsz w) - 1 - j))), (4, .int (nI (zsz w))), (0, .ref (h 11)), (1, .int x), (2, .long w)]) hx hb dX2_append_104 hl (k := 2) rfl (nI_add j 1) (by decide) rfl (fun ls hl => ?_)
      refine lv_goto (tgt := 9) hx hb dX2_append_107 (by decide) ?_
      have hP : va_P D vwCl (zWT cI cJ h (n, L) (kt, km, kl) (pt, pm, pl) (nu, (zale le lc w (j + 1)), (zaow ow lc wc (j + 1)), (zafo fo w (j + 1)), run, wc, (lc + (j + 1)), tr, cl, tm, ms) (yl, yc, yt, co, pa, su, sc) mc ++ R) H := by rw [zale_s, zaow_s, zafo_s (Nat.not_le.mp c_3)]; exact hP
      have hD : va_D (zAb B) (zWT cI cJ h (n, L) (kt, km, kl) (pt, pm, pl) (nu, (zale le lc w (j + 1)), (zaow ow lc wc (j + 1)), (zafo fo w (j + 1)), run, wc, (lc + (j + 1)), tr, cl, tm, ms) (yl, yc, yt, co, pa, su, sc) mc ++ R) := by rw [zale_s, zaow_s, zafo_s (Nat.not_le.mp c_3)]; exact hD
      exact ih (j + 1) (by omega) (by omega) _ _ _ hP hD hS (lv_sub hl [0, 3, 4, 5, 6] rfl)

set_option maxHeartbeats 4000000 in
set_option maxRecDepth 100000 in
theorem c_X4_pairAt {l : Launch} {B kr kp : Nat} {D : va_G} {cI cJ cZ : ClassId} {ws : va_W} {w : Int64} {k : Nat}  (hk : k + 1 < zsz w) : Met l yX4_pairAt wsX4_pairAt ({ frames := 1, cells := 0, slots := 0, locals := 23 }) (zPc B kr kp D (zTy cI cJ cZ) ws [.long w, .int (nI (zsz w)), .int (nI (k + 1))]) (zQi B D ws (zpx w k)) 0 0 (zAb B) := by
  refine Met.ofW (cc := cX4_pairAt) (maxL := 4) (ret := (some .int)) (by decide) rfl ?_
  intro p e s m args below meth c s₁ B0 hml hv
  obtain ⟨rfl, hP, hD, hK, hE, hB⟩ := hv
  have hx := B0.exec
  have hb := B0.bytes
  have hr := B0.returns
  have hts := atoms_spec (ws := wsX4_pairAt) B0.pre
  have hown : s.vm.findClass RX4 = some m.cls := findClass_of_methodNamed B0.named
  have hlocks := B0.notSynchronized
  have hA : ∀ q : Nat, s.heap.size ≤ q → zAb B q := fun q hq => Nat.le_trans hB hq
  have hS : va_S (zAb B) s.heap s.heap [] := va_S.rf
  have hl := lv_entry ([.long w, .int (nI (zsz w)), .int (nI (k + 1))]) (n := 4) (Nat.le_of_ble_eq_true rfl)
  rw [lg_entry_eq]
  generalize (lg_sl ([.long w, .int (nI (zsz w)), .int (nI (k + 1))]) ++ List.replicate (4 - (lg_sl ([.long w, .int (nI (zsz w)), .int (nI (k + 1))])).length) Slot.unset).toArray = ls at hl ⊢
  have hl : lv_has ls 4 [(0, .long w), (2, .int (nI (zsz w))), (3, .int (nI (k + 1)))] := hl
  have hP : va_P D vwCl ws s.heap := hP
  have hD : va_D (zAb B) ws := hD
  have h8 := zsz_le w
  refine lv_lload_n hx hb dX4_pairAt_0 rfl (lv_at hl 0 rfl) ?_
  refine lv_iload_n hx hb dX4_pairAt_1 rfl (lv_at hl 1 rfl) ?_
  refine lv_iload_n hx hb dX4_pairAt_2 rfl (lv_at hl 2 rfl) ?_
  refine lv_iconst (v := 1) hx hb dX4_pairAt_3 (by decide) ?_
  refine lv_isub hx hb dX4_pairAt_4 ?_
  refine lv_topi (fun v_1 ev_1 => ?_)
  obtain rfl : v_1 = (nI k) := ev_1.trans ((pk_sub (a := (k + 1)) (b := 1) (by omega)).trans (congrArg nI (by omega)))
  refine zci (zrS (As := [.long w, .int (nI (zsz w)), .int (nI k)]) (rest := []) ⟨hx, hb, hml, hown, hts⟩ (zS hP hD hK hE hB hS) (c_X4_letterOf (ln := (zsz w)) (k := k) (by omega) (by omega)) (va_cwS 3 hts gX4_pairAt_X4_letterOf rfl rfl rfl hds_X4_letterOf ⟨Nat.le_of_ble_eq_true rfl, Nat.le_of_ble_eq_true rfl⟩) rfl rfl hl.1 rfl (lv_room (Nat.le_of_ble_eq_true rfl)) dX4_pairAt_5 ⟨Nat.le_of_ble_eq_true rfl, Nat.le_of_ble_eq_true rfl⟩) hS (fun H locs hP hD hS => ?_)
  refine lv_lload_n hx hb dX4_pairAt_8 rfl (lv_at hl 0 rfl) ?_
  refine lv_iload_n hx hb dX4_pairAt_9 rfl (lv_at hl 1 rfl) ?_
  refine lv_iload_n hx hb dX4_pairAt_10 rfl (lv_at hl 2 rfl) ?_
  refine zci (zrS (As := [.long w, .int (nI (zsz w)), .int (nI (k + 1))]) (rest := [.int (zlt w ((zsz w) - 1 - k))]) ⟨hx, hb, hml, hown, hts⟩ (zS hP hD hK hE hB hS) (c_X4_letterOf (ln := (zsz w)) (k := (k + 1)) (by omega) (by omega)) (va_cwS 3 hts gX4_pairAt_X4_letterOf rfl rfl rfl hds_X4_letterOf ⟨Nat.le_of_ble_eq_true rfl, Nat.le_of_ble_eq_true rfl⟩) rfl rfl hl.1 rfl (lv_room (Nat.le_of_ble_eq_true rfl)) dX4_pairAt_11 ⟨Nat.le_of_ble_eq_true rfl, Nat.le_of_ble_eq_true rfl⟩) hS (fun H locs hP hD hS => ?_)
  refine zci (zrS (As := [.int (zlt w ((zsz w) - 1 - k)), .int (zlt w ((zsz w) - 1 - (k + 1)))]) (rest := []) ⟨hx, hb, hml, hown, hts⟩ (zS hP hD hK hE hB hS) (c_X4_pairOf  ) (va_cwS 2 hts gX4_pairAt_X4_pairOf rfl rfl rfl hds_X4_pairOf ⟨Nat.le_of_ble_eq_true rfl, Nat.le_of_ble_eq_true rfl⟩) rfl rfl hl.1 rfl (lv_room (Nat.le_of_ble_eq_true rfl)) dX4_pairAt_14 ⟨Nat.le_of_ble_eq_true rfl, Nat.le_of_ble_eq_true rfl⟩) hS (fun H locs hP hD hS => ?_)
  exact W.iret (v := (26 * (zlt w ((zsz w) - 1 - k)) + (zlt w ((zsz w) - 1 - (k + 1))))) hx hb hr (fun t ht hW => ⟨⟨_, (), rfl, rfl, by rw [ht]; exact hP, hD⟩, hS.F ht⟩) hS.2.2 dX4_pairAt_17

set_option maxHeartbeats 4000000 in
set_option maxRecDepth 100000 in
theorem c_X4_tellsWord {l : Launch} {B kr kp : Nat} {D : va_G} {cI cJ cZ : ClassId} {ws : va_W} {w : Int64}    : Met l yX4_tellsWord wsX4_tellsWord ({ frames := 0, cells := 0, slots := 0, locals := 0 }) (zPc B kr kp D (zTy cI cJ cZ) ws [.long w]) (zQi B D ws (zb (zok w))) 0 0 (zAb B) := by
  refine Met.ofW (cc := cX4_tellsWord) (maxL := 7) (ret := (some .boolean)) (by decide) rfl ?_
  intro p e s m args below meth c s₁ B0 hml hv
  obtain ⟨rfl, hP, hD, hK, hE, hB⟩ := hv
  have hx := B0.exec
  have hb := B0.bytes
  have hr := B0.returns
  have hts := atoms_spec (ws := wsX4_tellsWord) B0.pre
  have hown : s.vm.findClass RX4 = some m.cls := findClass_of_methodNamed B0.named
  have hlocks := B0.notSynchronized
  have hA : ∀ q : Nat, s.heap.size ≤ q → zAb B q := fun q hq => Nat.le_trans hB hq
  have hS : va_S (zAb B) s.heap s.heap [] := va_S.rf
  have hl := lv_entry ([.long w]) (n := 7) (Nat.le_of_ble_eq_true rfl)
  rw [lg_entry_eq]
  generalize (lg_sl ([.long w]) ++ List.replicate (7 - (lg_sl ([.long w])).length) Slot.unset).toArray = ls at hl ⊢
  have hl : lv_has ls 7 [(0, .long w)] := hl
  have hP : va_P D vwCl ws s.heap := hP
  have hD : va_D (zAb B) ws := hD
  refine lv_lload_n hx hb dX4_tellsWord_0 rfl (lv_at hl 0 rfl) ?_
  refine lv_lstore_n (lv' := [(2, .long w), (0, .long w)]) hx hb dX4_tellsWord_1 rfl hl (by decide) rfl (fun ls hl => ?_)
  refine lv_iconst (v := 0) hx hb dX4_tellsWord_2 (by decide) ?_
  refine lv_istore (lv' := [(4, .int 0), (2, .long w), (0, .long w)]) hx hb dX4_tellsWord_3 hl (by decide) rfl (fun ls hl => ?_)
  refine zloop (σ := (Nat) × (Int64)) (nL := 7) (fun x9 => ws) (fun x9 => [(4, .int (nI x9.1)), (2, .long x9.2), (0, .long w)]) (fun x9 => []) (fun x9 => x9.1 ≤ 8 ∧ (x9.1 < 8 → x9.2 = zsh w x9.1) ∧ zszA w (8 - x9.1) x9.1 = zsz w ∧ zokA w x9.1 = true) (fun x9 => 8 - x9.1) ?_ (0, w) (⟨by omega, fun _ => (zsh_0 w).symm, rfl, rfl⟩) _ _ _ hP hD hS (lv_sub hl [0, 1, 2] rfl)
  rintro ⟨j, x⟩ hI ih H locs ls hP hD hS hl
  try dsimp only at hI ih hP hD hS hl ⊢
  refine lv_iload hx hb dX4_tellsWord_5 (lv_at hl 0 rfl) ?_
  refine lv_bipush (v := 8) hx hb dX4_tellsWord_7 (by decide) ?_
  refine lv_icmp_ge (tgt := 56) hx hb dX4_tellsWord_9 (by decide) (fun c_1 => ?_) (fun c_1 => ?_)
  · skip
    have c_1 : 8 ≤ j := (nI_leI (a := 8) (b := j) (by omega) (by omega)).mp c_1
    have hz : zsz w = j := by obtain rfl : j = 8 := (by omega); exact hI.2.2.1.symm
    have hz2 : zokA w (zsz w) = true := by rw [hz]; exact hI.2.2.2
    refine lv_lload_n hx hb dX4_tellsWord_56 rfl (lv_at hl 2 rfl) ?_
    refine lv_lconst (v := 0) hx hb dX4_tellsWord_57 (by decide) ?_
    refine W.lcmp hx hb dX4_tellsWord_58 ?_
    refine lv_if_eq (tgt := 66) hx hb dX4_tellsWord_59 (by decide) (fun c_2 => ?_) (fun c_2 => ?_)
    · skip
      have c_2 : w = 0 := (lg_cmp_eq _ _).mp c_2
      refine lv_iconst (v := 0) hx hb dX4_tellsWord_66 (by decide) ?_
      exact W.zret (v := 0) hx hb hr rfl (fun t ht hW => ⟨⟨_, (), rfl, zb_f (zok_0 c_2), by rw [ht]; exact hP, hD⟩, hS.F ht⟩) hS.2.2 dX4_tellsWord_67
    · skip
      have c_2 : ¬ w = 0 := fun hh => c_2 ((lg_cmp_eq _ _).mpr hh)
      refine lv_iconst (v := 1) hx hb dX4_tellsWord_62 (by decide) ?_
      refine lv_goto (tgt := 67) hx hb dX4_tellsWord_63 (by decide) ?_
      exact W.zret (v := 1) hx hb hr rfl (fun t ht hW => ⟨⟨_, (), rfl, zb_t (zok_t c_2 hz2), by rw [ht]; exact hP, hD⟩, hS.F ht⟩) hS.2.2 dX4_tellsWord_67
  · skip
    have c_1 : ¬ 8 ≤ j := fun hh => c_1 ((nI_leI (a := 8) (b := j) (by omega) (by omega)).mpr hh)
    obtain rfl : zsh w j = x := (hI.2.1 (by omega)).symm
    refine lv_lload_n hx hb dX4_tellsWord_12 rfl (lv_at hl 1 rfl) ?_
    refine lv_lconst (v := 0) hx hb dX4_tellsWord_13 (by decide) ?_
    refine W.lcmp hx hb dX4_tellsWord_14 ?_
    refine lv_if_eq (tgt := 56) hx hb dX4_tellsWord_15 (by decide) (fun c_3 => ?_) (fun c_3 => ?_)
    · skip
      have c_3 : (zsh w j) = 0 := (lg_cmp_eq _ _).mp c_3
      have hz : zsz w = j := hI.2.2.1.symm.trans (zszA_stop (by omega) c_3)
      have hz2 : zokA w (zsz w) = true := by rw [hz]; exact hI.2.2.2
      refine lv_lload_n hx hb dX4_tellsWord_56 rfl (lv_at hl 2 rfl) ?_
      refine lv_lconst (v := 0) hx hb dX4_tellsWord_57 (by decide) ?_
      refine W.lcmp hx hb dX4_tellsWord_58 ?_
      refine lv_if_eq (tgt := 66) hx hb dX4_tellsWord_59 (by decide) (fun c_4 => ?_) (fun c_4 => ?_)
      · skip
        have c_4 : w = 0 := (lg_cmp_eq _ _).mp c_4
        refine lv_iconst (v := 0) hx hb dX4_tellsWord_66 (by decide) ?_
        exact W.zret (v := 0) hx hb hr rfl (fun t ht hW => ⟨⟨_, (), rfl, zb_f (zok_0 c_4), by rw [ht]; exact hP, hD⟩, hS.F ht⟩) hS.2.2 dX4_tellsWord_67
      · skip
        have c_4 : ¬ w = 0 := fun hh => c_4 ((lg_cmp_eq _ _).mpr hh)
        refine lv_iconst (v := 1) hx hb dX4_tellsWord_62 (by decide) ?_
        refine lv_goto (tgt := 67) hx hb dX4_tellsWord_63 (by decide) ?_
        exact W.zret (v := 1) hx hb hr rfl (fun t ht hW => ⟨⟨_, (), rfl, zb_t (zok_t c_4 hz2), by rw [ht]; exact hP, hD⟩, hS.F ht⟩) hS.2.2 dX4_tellsWord_67
    · skip
      have c_3 : ¬ (zsh w j) = 0 := fun hh => c_3 ((lg_cmp_eq _ _).mpr hh)
      refine lv_lload_n hx hb dX4_tellsWord_18 rfl (lv_at hl 1 rfl) ?_
      refine lv_ldc2 hx hb hown (hts (.constantLong RX4 227 (255)) (List.mem_of_getElem? (i := 1) rfl)) dX4_tellsWord_19 ?_
      refine lv_land hx hb dX4_tellsWord_22 ?_
      refine lv_lstore (lv' := [(5, .long ((zsh w j) &&& 255)), (4, .int (nI j)), (2, .long (zsh w j)), (0, .long w)]) hx hb dX4_tellsWord_23 hl (by decide) rfl (fun ls hl => ?_)
      refine lv_lload hx hb dX4_tellsWord_25 (lv_at hl 0 rfl) ?_
      refine lv_ldc2 hx hb hown (hts (.constantLong RX4 229 (97)) (List.mem_of_getElem? (i := 2) rfl)) dX4_tellsWord_27 ?_
      refine W.lcmp hx hb dX4_tellsWord_30 ?_
      refine lv_if_lt (tgt := 43) hx hb dX4_tellsWord_31 (by decide) (fun c_5 => ?_) (fun c_5 => ?_)
      · skip
        have c_5 := (lg_cmp_lt _ _).mp c_5
        refine lv_iconst (v := 0) hx hb dX4_tellsWord_43 (by decide) ?_
        exact W.zret (v := 0) hx hb hr rfl (fun t ht hW => ⟨⟨_, (), rfl, zb_f (zok_f (zsz_gt (by omega) c_3 hI.2.2.1) (zlk_lo (by omega) c_5)), by rw [ht]; exact hP, hD⟩, hS.F ht⟩) hS.2.2 dX4_tellsWord_44
      · skip
        have c_5 := fun hh => c_5 ((lg_cmp_lt _ _).mpr hh)
        refine lv_lload hx hb dX4_tellsWord_34 (lv_at hl 0 rfl) ?_
        refine lv_ldc2 hx hb hown (hts (.constantLong RX4 231 (122)) (List.mem_of_getElem? (i := 3) rfl)) dX4_tellsWord_36 ?_
        refine W.lcmp hx hb dX4_tellsWord_39 ?_
        refine lv_if_le (tgt := 45) hx hb dX4_tellsWord_40 (by decide) (fun c_6 => ?_) (fun c_6 => ?_)
        · skip
          have c_6 := (lg_cmp_le _ _).mp c_6
          refine lv_lload_n hx hb dX4_tellsWord_45 rfl (lv_at hl 2 rfl) ?_
          refine lv_bipush (v := 8) hx hb dX4_tellsWord_46 (by decide) ?_
          refine lv_lushr (v := ((zsh w j).toUInt64 >>> ((8 : Int32).toInt64.toUInt64 &&& Int64.toUInt64 63)).toInt64) hx hb dX4_tellsWord_48 rfl ?_
          refine lv_lstore_n (lv' := [(2, .long (((zsh w j).toUInt64 >>> ((8 : Int32).toInt64.toUInt64 &&& Int64.toUInt64 63)).toInt64)), (5, .long ((zsh w j) &&& 255)), (4, .int (nI j)), (0, .long w)]) hx hb dX4_tellsWord_49 rfl hl (by decide) rfl (fun ls hl => ?_)
          refine lv_iinc (v := (nI (j + 1))) (lv' := [(4, .int (nI (j + 1))), (2, .long (((zsh w j).toUInt64 >>> ((8 : Int32).toInt64.toUInt64 &&& Int64.toUInt64 63)).toInt64)), (5, .long ((zsh w j) &&& 255)), (0, .long w)]) hx hb dX4_tellsWord_50 hl (k := 2) rfl (nI_add j 1) (by decide) rfl (fun ls hl => ?_)
          refine lv_goto (tgt := 5) hx hb dX4_tellsWord_53 (by decide) ?_
          exact ih (j + 1, (((zsh w j).toUInt64 >>> ((8 : Int32).toInt64.toUInt64 &&& Int64.toUInt64 63)).toInt64)) (⟨by omega, fun h9 => zsh_s h9, (zszA_step (by omega) c_3).symm.trans hI.2.2.1, zokA_s hI.2.2.2 (zlk_in (by omega) c_5 c_6)⟩) (by omega) _ _ _ hP hD hS (lv_sub hl [0, 1, 3] rfl)
        · skip
          have c_6 := fun hh => c_6 ((lg_cmp_le _ _).mpr hh)
          refine lv_iconst (v := 0) hx hb dX4_tellsWord_43 (by decide) ?_
          exact W.zret (v := 0) hx hb hr rfl (fun t ht hW => ⟨⟨_, (), rfl, zb_f (zok_f (zsz_gt (by omega) c_3 hI.2.2.1) (zlk_hi (by omega) c_6)), by rw [ht]; exact hP, hD⟩, hS.F ht⟩) hS.2.2 dX4_tellsWord_44

set_option maxHeartbeats 4000000 in
set_option maxRecDepth 100000 in
theorem c_X4_weaknessOf {l : Launch} {B kr kp : Nat} {D : va_G} {cI cJ cZ : ClassId} {h : Nat → Nat} {R : va_W} {n : Nat} {L : Nat → Int64} {kt : Nat → Int32} {km : Nat → Int32} {kl : Nat → Int32} {pt : Nat → Int32} {pm : Nat → Int32} {pl : Nat → Int32} {nu : Nat → Int32} {le : Nat → Int32} {ow : Nat → Int32} {fo : Nat → Int32} {run : Bool} {wc : Nat} {lc : Nat} {tr : Nat} {cl : Nat} {tm : Nat} {ms : Nat} {yl : Nat → Int32} {yc : Nat → Int32} {yt : Nat → Int32} {co : Nat} {pa : Int32} {su : Nat} {sc : Nat} {mc : Nat → Int32} {i : Int32}    : Met l yX4_weaknessOf wsX4_weaknessOf ({ frames := 2, cells := 0, slots := 0, locals := 42 }) (zPc B kr kp D (zTy cI cJ cZ) (zWT cI cJ h (n, L) (kt, km, kl) (pt, pm, pl) (nu, le, ow, fo, run, wc, lc, tr, cl, tm, ms) (yl, yc, yt, co, pa, su, sc) mc ++ R) [.ref (h 0), .int i]) (zQi B D (zWT cI cJ h (n, L) (kt, km, kl) (pt, pm, pl) (nu, le, ow, fo, run, wc, lc, tr, cl, tm, ms) (yl, yc, yt, co, pa, su, sc) mc ++ R) (zwk pt pl i)) 0 0 (zAb B) := by
  refine Met.ofW (cc := cX4_weaknessOf) (maxL := 3) (ret := (some .int)) (by decide) rfl ?_
  intro p e s m args below meth c s₁ B0 hml hv
  obtain ⟨rfl, hP, hD, hK, hE, hB⟩ := hv
  have hx := B0.exec
  have hb := B0.bytes
  have hr := B0.returns
  have hts := atoms_spec (ws := wsX4_weaknessOf) B0.pre
  have hown : s.vm.findClass RX4 = some m.cls := findClass_of_methodNamed B0.named
  have hlocks := B0.notSynchronized
  have hA : ∀ q : Nat, s.heap.size ≤ q → zAb B q := fun q hq => Nat.le_trans hB hq
  have hS : va_S (zAb B) s.heap s.heap [] := va_S.rf
  have hl := lv_entry ([.ref (h 0), .int i]) (n := 3) (Nat.le_of_ble_eq_true rfl)
  rw [lg_entry_eq]
  generalize (lg_sl ([.ref (h 0), .int i]) ++ List.replicate (3 - (lg_sl ([.ref (h 0), .int i])).length) Slot.unset).toArray = ls at hl ⊢
  have hl : lv_has ls 3 [(0, .ref (h 0)), (1, .int i)] := hl
  have hinX4 : ∀ w ∈ wsX40, w ∈ wsX4_weaknessOf := fun _ h => List.mem_cons_of_mem _ (List.mem_append_left _ (List.mem_append_right _ h))
  have hP : va_P D vwCl (zWT cI cJ h (n, L) (kt, km, kl) (pt, pm, pl) (nu, le, ow, fo, run, wc, lc, tr, cl, tm, ms) (yl, yc, yt, co, pa, su, sc) mc ++ R) s.heap := hP
  have hD : va_D (zAb B) (zWT cI cJ h (n, L) (kt, km, kl) (pt, pm, pl) (nu, le, ow, fo, run, wc, lc, tr, cl, tm, ms) (yl, yc, yt, co, pa, su, sc) mc ++ R) := hD
  refine lv_sipush (v := 1000) hx hb dX4_weaknessOf_0 (by decide) ?_
  refine lv_aload_n hx hb dX4_weaknessOf_3 rfl (lv_at hl 0 rfl) ?_
  refine va_get (ci := 4) (v := .ref (h 7)) (C := RX4) (T := TX4) (N := 6) hx hb hts hinX4 hown hK hP 0 rfl rfl 2 (by decide) (hts (.fieldLink RX4 25 "TypingTutor" "pairs" "LTypingTutor$Knowledge;") (List.mem_of_getElem? (i := 1) rfl)) (fun _ h9 => h9) rfl dX4_weaknessOf_4 ?_
  refine lv_iload_n hx hb dX4_weaknessOf_7 rfl (lv_at hl 1 rfl) ?_
  refine zci (zrV (As := [.int i]) (rest := [.int 1000]) ⟨hx, hb, hml, hown, hts⟩ (zV 7 hP hD hK hE hB hS rfl rfl) (c_X1_levelOf_p  ) (cwV 1 hts gX4_weaknessOf_X1_levelOf rfl rfl rfl hdv_X1_levelOf ⟨Nat.le_of_ble_eq_true rfl, Nat.le_of_ble_eq_true rfl⟩) rfl rfl hl.1 rfl (lv_room (Nat.le_of_ble_eq_true rfl)) dX4_weaknessOf_8 ⟨Nat.le_of_ble_eq_true rfl, Nat.le_of_ble_eq_true rfl⟩) hS (fun H locs hP hD hS => ?_)
  have hP : va_P D vwCl (zWT cI cJ h (n, L) (kt, km, kl) (pt, pm, pl) (nu, le, ow, fo, run, wc, lc, tr, cl, tm, ms) (yl, yc, yt, co, pa, su, sc) mc ++ R) _ := hP
  have hD : va_D (zAb B) (zWT cI cJ h (n, L) (kt, km, kl) (pt, pm, pl) (nu, le, ow, fo, run, wc, lc, tr, cl, tm, ms) (yl, yc, yt, co, pa, su, sc) mc ++ R) := hD
  refine lv_isub hx hb dX4_weaknessOf_11 ?_
  refine lv_istore_n (lv' := [(2, .int (1000 - (zrd 676 pl i))), (0, .ref (h 0)), (1, .int i)]) hx hb dX4_weaknessOf_12 rfl hl (by decide) rfl (fun ls hl => ?_)
  refine lv_aload_n hx hb dX4_weaknessOf_13 rfl (lv_at hl 1 rfl) ?_
  refine va_get (ci := 4) (v := .ref (h 7)) (C := RX4) (T := TX4) (N := 6) hx hb hts hinX4 hown hK hP 0 rfl rfl 2 (by decide) (hts (.fieldLink RX4 25 "TypingTutor" "pairs" "LTypingTutor$Knowledge;") (List.mem_of_getElem? (i := 1) rfl)) (fun _ h9 => h9) rfl dX4_weaknessOf_14 ?_
  refine lv_iload_n hx hb dX4_weaknessOf_17 rfl (lv_at hl 2 rfl) ?_
  refine zci (zrV (As := [.int i]) (rest := []) ⟨hx, hb, hml, hown, hts⟩ (zV 7 hP hD hK hE hB hS rfl rfl) (c_X1_triesOf_p  ) (cwV 1 hts gX4_weaknessOf_X1_triesOf rfl rfl rfl hdv_X1_triesOf ⟨Nat.le_of_ble_eq_true rfl, Nat.le_of_ble_eq_true rfl⟩) rfl rfl hl.1 rfl (lv_room (Nat.le_of_ble_eq_true rfl)) dX4_weaknessOf_18 ⟨Nat.le_of_ble_eq_true rfl, Nat.le_of_ble_eq_true rfl⟩) hS (fun H locs hP hD hS => ?_)
  have hP : va_P D vwCl (zWT cI cJ h (n, L) (kt, km, kl) (pt, pm, pl) (nu, le, ow, fo, run, wc, lc, tr, cl, tm, ms) (yl, yc, yt, co, pa, su, sc) mc ++ R) _ := hP
  have hD : va_D (zAb B) (zWT cI cJ h (n, L) (kt, km, kl) (pt, pm, pl) (nu, le, ow, fo, run, wc, lc, tr, cl, tm, ms) (yl, yc, yt, co, pa, su, sc) mc ++ R) := hD
  refine lv_if_ne (tgt := 32) hx hb dX4_weaknessOf_21 (by decide) (fun c_1 => ?_) (fun c_1 => ?_)
  · skip
    refine lv_iload_n hx hb dX4_weaknessOf_32 rfl (lv_at hl 0 rfl) ?_
    exact W.iret (v := (1000 - (zrd 676 pl i))) hx hb hr (fun t ht hW => ⟨⟨_, (), rfl, (if_neg c_1).symm, by rw [ht]; exact hP, hD⟩, hS.F ht⟩) hS.2.2 dX4_weaknessOf_33
  · skip
    refine lv_iload_n hx hb dX4_weaknessOf_24 rfl (lv_at hl 0 rfl) ?_
    refine lv_sipush (v := 200) hx hb dX4_weaknessOf_25 (by decide) ?_
    refine lv_iadd hx hb dX4_weaknessOf_28 ?_
    refine lv_goto (tgt := 33) hx hb dX4_weaknessOf_29 (by decide) ?_
    exact W.iret (v := ((1000 - (zrd 676 pl i)) + 200)) hx hb hr (fun t ht hW => ⟨⟨_, (), rfl, (if_pos c_1).symm, by rw [ht]; exact hP, hD⟩, hS.F ht⟩) hS.2.2 dX4_weaknessOf_33

set_option maxHeartbeats 4000000 in
set_option maxRecDepth 100000 in
theorem c_X4_weightOf {l : Launch} {B kr kp : Nat} {D : va_G} {cI cJ cZ : ClassId} {h : Nat → Nat} {R : va_W} {n : Nat} {L : Nat → Int64} {kt : Nat → Int32} {km : Nat → Int32} {kl : Nat → Int32} {pt : Nat → Int32} {pm : Nat → Int32} {pl : Nat → Int32} {nu : Nat → Int32} {le : Nat → Int32} {ow : Nat → Int32} {fo : Nat → Int32} {run : Bool} {wc : Nat} {lc : Nat} {tr : Nat} {cl : Nat} {tm : Nat} {ms : Nat} {yl : Nat → Int32} {yc : Nat → Int32} {yt : Nat → Int32} {co : Nat} {pa : Int32} {su : Nat} {sc : Nat} {mc : Nat → Int32} {w : Int64}   (hw : 0 < zsz w) : Met l yX4_weightOf wsX4_weightOf ({ frames := 3, cells := 0, slots := 0, locals := 64 }) (zPc B kr kp D (zTy cI cJ cZ) (zWT cI cJ h (n, L) (kt, km, kl) (pt, pm, pl) (nu, le, ow, fo, run, wc, lc, tr, cl, tm, ms) (yl, yc, yt, co, pa, su, sc) mc ++ R) [.ref (h 0), .long w]) (zQi B D (zWT cI cJ h (n, L) (kt, km, kl) (pt, pm, pl) (nu, le, ow, fo, run, wc, lc, tr, cl, tm, ms) (yl, yc, yt, co, pa, su, sc) mc ++ R) (zwg kl pt pl w)) 0 0 (zAb B) := by
  refine Met.ofW (cc := cX4_weightOf) (maxL := 6) (ret := (some .int)) (by decide) rfl ?_
  intro p e s m args below meth c s₁ B0 hml hv
  obtain ⟨rfl, hP, hD, hK, hE, hB⟩ := hv
  have hx := B0.exec
  have hb := B0.bytes
  have hr := B0.returns
  have hts := atoms_spec (ws := wsX4_weightOf) B0.pre
  have hown : s.vm.findClass RX4 = some m.cls := findClass_of_methodNamed B0.named
  have hlocks := B0.notSynchronized
  have hA : ∀ q : Nat, s.heap.size ≤ q → zAb B q := fun q hq => Nat.le_trans hB hq
  have hS : va_S (zAb B) s.heap s.heap [] := va_S.rf
  have hl := lv_entry ([.ref (h 0), .long w]) (n := 6) (Nat.le_of_ble_eq_true rfl)
  rw [lg_entry_eq]
  generalize (lg_sl ([.ref (h 0), .long w]) ++ List.replicate (6 - (lg_sl ([.ref (h 0), .long w])).length) Slot.unset).toArray = ls at hl ⊢
  have hl : lv_has ls 6 [(0, .ref (h 0)), (1, .long w)] := hl
  have hinX4 : ∀ w ∈ wsX40, w ∈ wsX4_weightOf := fun _ h => List.mem_cons_of_mem _ (List.mem_append_left _ (List.mem_append_right _ h))
  have hP : va_P D vwCl (zWT cI cJ h (n, L) (kt, km, kl) (pt, pm, pl) (nu, le, ow, fo, run, wc, lc, tr, cl, tm, ms) (yl, yc, yt, co, pa, su, sc) mc ++ R) s.heap := hP
  have hD : va_D (zAb B) (zWT cI cJ h (n, L) (kt, km, kl) (pt, pm, pl) (nu, le, ow, fo, run, wc, lc, tr, cl, tm, ms) (yl, yc, yt, co, pa, su, sc) mc ++ R) := hD
  have h8 := zsz_le w
  refine lv_lload_n hx hb dX4_weightOf_0 rfl (lv_at hl 1 rfl) ?_
  refine zci (zrS (As := [.long w]) (rest := []) ⟨hx, hb, hml, hown, hts⟩ (zS hP hD hK hE hB hS) (c_X4_lengthOf  ) (va_cwS 1 hts gX4_weightOf_X4_lengthOf rfl rfl rfl hds_X4_lengthOf ⟨Nat.le_of_ble_eq_true rfl, Nat.le_of_ble_eq_true rfl⟩) rfl rfl hl.1 rfl (lv_room (Nat.le_of_ble_eq_true rfl)) dX4_weightOf_1 ⟨Nat.le_of_ble_eq_true rfl, Nat.le_of_ble_eq_true rfl⟩) hS (fun H locs hP hD hS => ?_)
  have hP : va_P D vwCl (zWT cI cJ h (n, L) (kt, km, kl) (pt, pm, pl) (nu, le, ow, fo, run, wc, lc, tr, cl, tm, ms) (yl, yc, yt, co, pa, su, sc) mc ++ R) _ := hP
  have hD : va_D (zAb B) (zWT cI cJ h (n, L) (kt, km, kl) (pt, pm, pl) (nu, le, ow, fo, run, wc, lc, tr, cl, tm, ms) (yl, yc, yt, co, pa, su, sc) mc ++ R) := hD
  refine lv_istore_n (lv' := [(3, .int (nI (zsz w))), (0, .ref (h 0)), (1, .long w)]) hx hb dX4_weightOf_4 rfl hl (by decide) rfl (fun ls hl => ?_)
  refine lv_iload_n hx hb dX4_weightOf_5 rfl (lv_at hl 0 rfl) ?_
  refine lv_iconst (v := 1) hx hb dX4_weightOf_6 (by decide) ?_
  refine lv_icmp_gt (tgt := 28) hx hb dX4_weightOf_7 (by decide) (fun c_1 => ?_) (fun c_1 => ?_)
  · skip
    have c_1 : 1 < (zsz w) := (nI_ltI (a := 1) (b := (zsz w)) (by omega) (by omega)).mp c_1
    refine lv_iconst (v := 0) hx hb dX4_weightOf_28 (by decide) ?_
    refine lv_istore (lv' := [(4, .int 0), (3, .int (nI (zsz w))), (0, .ref (h 0)), (1, .long w)]) hx hb dX4_weightOf_29 hl (by decide) rfl (fun ls hl => ?_)
    refine lv_iconst (v := 1) hx hb dX4_weightOf_31 (by decide) ?_
    refine lv_istore (lv' := [(5, .int 1), (4, .int 0), (3, .int (nI (zsz w))), (0, .ref (h 0)), (1, .long w)]) hx hb dX4_weightOf_32 hl (by decide) rfl (fun ls hl => ?_)
    refine zloop (σ := (Nat) × (Int32)) (nL := 6) (fun x9 => (zWT cI cJ h (n, L) (kt, km, kl) (pt, pm, pl) (nu, le, ow, fo, run, wc, lc, tr, cl, tm, ms) (yl, yc, yt, co, pa, su, sc) mc ++ R)) (fun x9 => [(5, .int (nI (x9.1 + 1))), (4, .int x9.2), (3, .int (nI (zsz w))), (0, .ref (h 0)), (1, .long w)]) (fun x9 => []) (fun x9 => (x9.1 + 1 ≤ zsz w) ∧ x9.2 = zsm pt pl w x9.1) (fun x9 => zsz w - x9.1) ?_ (0, 0) (⟨by omega, rfl⟩) _ _ _ hP hD hS (lv_sub hl [0, 1, 2, 3, 4] rfl)
    rintro ⟨j, z⟩ hI ih H locs ls hP hD hS hl
    try dsimp only at hI ih hP hD hS hl ⊢
    obtain ⟨hI, rfl⟩ := hI
    refine lv_iload hx hb dX4_weightOf_34 (lv_at hl 0 rfl) ?_
    refine lv_iload_n hx hb dX4_weightOf_36 rfl (lv_at hl 2 rfl) ?_
    refine lv_icmp_ge (tgt := 62) hx hb dX4_weightOf_37 (by decide) (fun c_2 => ?_) (fun c_2 => ?_)
    · skip
      have c_2 : (zsz w) ≤ (j + 1) := (nI_leI (a := (zsz w)) (b := (j + 1)) (by omega) (by omega)).mp c_2
      obtain rfl : zsz w - 1 = j := by omega
      refine lv_iload hx hb dX4_weightOf_62 (lv_at hl 1 rfl) ?_
      refine lv_iload_n hx hb dX4_weightOf_64 rfl (lv_at hl 2 rfl) ?_
      refine lv_iconst (v := 1) hx hb dX4_weightOf_65 (by decide) ?_
      refine lv_isub hx hb dX4_weightOf_66 ?_
      refine lv_topi (fun v_3 ev_3 => ?_)
      obtain rfl : v_3 = (nI ((zsz w) - 1)) := ev_3.trans (pk_sub (a := (zsz w)) (b := 1) (by omega))
      refine lv_idiv hx hb dX4_weightOf_67 (nI_ne0 (by omega) (by omega)) ?_
      exact W.iret (v := ((zsm pt pl w (zsz w - 1)) / (nI ((zsz w) - 1)))) hx hb hr (fun t ht hW => ⟨⟨_, (), rfl, (if_neg (by omega)).symm, by rw [ht]; exact hP, hD⟩, hS.F ht⟩) hS.2.2 dX4_weightOf_68
    · skip
      have c_2 : ¬ (zsz w) ≤ (j + 1) := fun hh => c_2 ((nI_leI (a := (zsz w)) (b := (j + 1)) (by omega) (by omega)).mpr hh)
      refine lv_iload hx hb dX4_weightOf_40 (lv_at hl 1 rfl) ?_
      refine lv_aload_n hx hb dX4_weightOf_42 rfl (lv_at hl 3 rfl) ?_
      refine lv_lload_n hx hb dX4_weightOf_43 rfl (lv_at hl 4 rfl) ?_
      refine lv_iload_n hx hb dX4_weightOf_44 rfl (lv_at hl 2 rfl) ?_
      refine lv_iload hx hb dX4_weightOf_45 (lv_at hl 0 rfl) ?_
      refine zci (zrS (As := [.long w, .int (nI (zsz w)), .int (nI (j + 1))]) (rest := [.ref (h 0), .int (zsm pt pl w j)]) ⟨hx, hb, hml, hown, hts⟩ (zS hP hD hK hE hB hS) (c_X4_pairAt (k := j) (by omega)) (va_cwS 3 hts gX4_weightOf_X4_pairAt rfl rfl rfl hds_X4_pairAt ⟨Nat.le_of_ble_eq_true rfl, Nat.le_of_ble_eq_true rfl⟩) rfl rfl hl.1 rfl (lv_room (Nat.le_of_ble_eq_true rfl)) dX4_weightOf_47 ⟨Nat.le_of_ble_eq_true rfl, Nat.le_of_ble_eq_true rfl⟩) hS (fun H locs hP hD hS => ?_)
      have hP : va_P D vwCl (zWT cI cJ h (n, L) (kt, km, kl) (pt, pm, pl) (nu, le, ow, fo, run, wc, lc, tr, cl, tm, ms) (yl, yc, yt, co, pa, su, sc) mc ++ R) _ := hP
      have hD : va_D (zAb B) (zWT cI cJ h (n, L) (kt, km, kl) (pt, pm, pl) (nu, le, ow, fo, run, wc, lc, tr, cl, tm, ms) (yl, yc, yt, co, pa, su, sc) mc ++ R) := hD
      refine zci (zrV (As := [.int (zpx w j)]) (rest := [.int (zsm pt pl w j)]) ⟨hx, hb, hml, hown, hts⟩ (zV 0 hP hD hK hE hB hS rfl rfl) (c_X4_weaknessOf  ) (cwV 1 hts gX4_weightOf_X4_weaknessOf rfl rfl rfl hdv_X4_weaknessOf ⟨Nat.le_of_ble_eq_true rfl, Nat.le_of_ble_eq_true rfl⟩) rfl rfl hl.1 rfl (lv_room (Nat.le_of_ble_eq_true rfl)) dX4_weightOf_50 ⟨Nat.le_of_ble_eq_true rfl, Nat.le_of_ble_eq_true rfl⟩) hS (fun H locs hP hD hS => ?_)
      have hP : va_P D vwCl (zWT cI cJ h (n, L) (kt, km, kl) (pt, pm, pl) (nu, le, ow, fo, run, wc, lc, tr, cl, tm, ms) (yl, yc, yt, co, pa, su, sc) mc ++ R) _ := hP
      have hD : va_D (zAb B) (zWT cI cJ h (n, L) (kt, km, kl) (pt, pm, pl) (nu, le, ow, fo, run, wc, lc, tr, cl, tm, ms) (yl, yc, yt, co, pa, su, sc) mc ++ R) := hD
      refine lv_iadd hx hb dX4_weightOf_53 ?_
      refine lv_istore (lv' := [(4, .int ((zsm pt pl w j) + (zwk pt pl (zpx w j)))), (5, .int (nI (j + 1))), (3, .int (nI (zsz w))), (0, .ref (h 0)), (1, .long w)]) hx hb dX4_weightOf_54 hl (by decide) rfl (fun ls hl => ?_)
      refine lv_iinc (v := (nI ((j + 1) + 1))) (lv' := [(5, .int (nI ((j + 1) + 1))), (4, .int ((zsm pt pl w j) + (zwk pt pl (zpx w j)))), (3, .int (nI (zsz w))), (0, .ref (h 0)), (1, .long w)]) hx hb dX4_weightOf_56 hl (k := 1) rfl (nI_add (j + 1) 1) (by decide) rfl (fun ls hl => ?_)
      refine lv_goto (tgt := 34) hx hb dX4_weightOf_59 (by decide) ?_
      exact ih (j + 1, ((zsm pt pl w j) + (zwk pt pl (zpx w j)))) (⟨by omega, rfl⟩) (by omega) _ _ _ hP hD hS (lv_sub hl [0, 1, 2, 3, 4] rfl)
  · skip
    have c_1 : ¬ 1 < (zsz w) := fun hh => c_1 ((nI_ltI (a := 1) (b := (zsz w)) (by omega) (by omega)).mpr hh)
    refine lv_sipush (v := 1000) hx hb dX4_weightOf_10 (by decide) ?_
    refine lv_aload_n hx hb dX4_weightOf_13 rfl (lv_at hl 1 rfl) ?_
    refine va_get (ci := 4) (v := .ref (h 3)) (C := RX4) (T := TX4) (N := 6) hx hb hts hinX4 hown hK hP 0 rfl rfl 1 (by decide) (hts (.fieldLink RX4 21 "TypingTutor" "keys" "LTypingTutor$Knowledge;") (List.mem_of_getElem? (i := 1) rfl)) (fun _ h9 => h9) rfl dX4_weightOf_14 ?_
    refine lv_lload_n hx hb dX4_weightOf_17 rfl (lv_at hl 2 rfl) ?_
    refine lv_iload_n hx hb dX4_weightOf_18 rfl (lv_at hl 0 rfl) ?_
    refine lv_iconst (v := 0) hx hb dX4_weightOf_19 (by decide) ?_
    refine zci (zrS (As := [.long w, .int (nI (zsz w)), .int 0]) (rest := [.ref (h 3), .int 1000]) ⟨hx, hb, hml, hown, hts⟩ (zS hP hD hK hE hB hS) (c_X4_letterOf (ln := (zsz w)) (k := 0) (by omega) (by omega)) (va_cwS 3 hts gX4_weightOf_X4_letterOf rfl rfl rfl hds_X4_letterOf ⟨Nat.le_of_ble_eq_true rfl, Nat.le_of_ble_eq_true rfl⟩) rfl rfl hl.1 rfl (lv_room (Nat.le_of_ble_eq_true rfl)) dX4_weightOf_20 ⟨Nat.le_of_ble_eq_true rfl, Nat.le_of_ble_eq_true rfl⟩) hS (fun H locs hP hD hS => ?_)
    have hP : va_P D vwCl (zWT cI cJ h (n, L) (kt, km, kl) (pt, pm, pl) (nu, le, ow, fo, run, wc, lc, tr, cl, tm, ms) (yl, yc, yt, co, pa, su, sc) mc ++ R) _ := hP
    have hD : va_D (zAb B) (zWT cI cJ h (n, L) (kt, km, kl) (pt, pm, pl) (nu, le, ow, fo, run, wc, lc, tr, cl, tm, ms) (yl, yc, yt, co, pa, su, sc) mc ++ R) := hD
    refine zci (zrV (As := [.int (zlt w ((zsz w) - 1 - 0))]) (rest := [.int 1000]) ⟨hx, hb, hml, hown, hts⟩ (zV 3 hP hD hK hE hB hS rfl rfl) (c_X1_levelOf_k  ) (cwV 1 hts gX4_weightOf_X1_levelOf rfl rfl rfl hdv_X1_levelOf ⟨Nat.le_of_ble_eq_true rfl, Nat.le_of_ble_eq_true rfl⟩) rfl rfl hl.1 rfl (lv_room (Nat.le_of_ble_eq_true rfl)) dX4_weightOf_23 ⟨Nat.le_of_ble_eq_true rfl, Nat.le_of_ble_eq_true rfl⟩) hS (fun H locs hP hD hS => ?_)
    have hP : va_P D vwCl (zWT cI cJ h (n, L) (kt, km, kl) (pt, pm, pl) (nu, le, ow, fo, run, wc, lc, tr, cl, tm, ms) (yl, yc, yt, co, pa, su, sc) mc ++ R) _ := hP
    have hD : va_D (zAb B) (zWT cI cJ h (n, L) (kt, km, kl) (pt, pm, pl) (nu, le, ow, fo, run, wc, lc, tr, cl, tm, ms) (yl, yc, yt, co, pa, su, sc) mc ++ R) := hD
    refine lv_isub hx hb dX4_weightOf_26 ?_
    exact W.iret (v := (1000 - (zrd 26 kl (zlt w ((zsz w) - 1 - 0))))) hx hb hr (fun t ht hW => ⟨⟨_, (), rfl, (if_pos (by omega)).symm, by rw [ht]; exact hP, hD⟩, hS.F ht⟩) hS.2.2 dX4_weightOf_27

set_option maxHeartbeats 4000000 in
set_option maxRecDepth 100000 in
theorem c_X4_weightInLesson {l : Launch} {B kr kp : Nat} {D : va_G} {cI cJ cZ : ClassId} {h : Nat → Nat} {R : va_W} {n : Nat} {L : Nat → Int64} {kt : Nat → Int32} {km : Nat → Int32} {kl : Nat → Int32} {pt : Nat → Int32} {pm : Nat → Int32} {pl : Nat → Int32} {nu : Nat → Int32} {le : Nat → Int32} {ow : Nat → Int32} {fo : Nat → Int32} {run : Bool} {wc : Nat} {lc : Nat} {tr : Nat} {cl : Nat} {tm : Nat} {ms : Nat} {yl : Nat → Int32} {yc : Nat → Int32} {yt : Nat → Int32} {co : Nat} {pa : Int32} {su : Nat} {sc : Nat} {mc : Nat → Int32} {w : Int64}   (hw : 0 < zsz w) : Met l yX4_weightInLesson wsX4_weightInLesson ({ frames := 4, cells := 0, slots := 0, locals := 89 }) (zPc B kr kp D (zTy cI cJ cZ) (zWT cI cJ h (n, L) (kt, km, kl) (pt, pm, pl) (nu, le, ow, fo, run, wc, lc, tr, cl, tm, ms) (yl, yc, yt, co, pa, su, sc) mc ++ R) [.ref (h 0), .long w]) (zQi B D (zWT cI cJ h (n, L) (kt, km, kl) (pt, pm, pl) (nu, le, ow, fo, run, wc, lc, tr, cl, tm, ms) (yl, yc, yt, co, pa, su, sc) mc ++ R) (zwl (zfh fo) kl pt pl w)) 0 0 (zAb B) := by
  refine Met.ofW (cc := cX4_weightInLesson) (maxL := 8) (ret := (some .int)) (by decide) rfl ?_
  intro p e s m args below meth c s₁ B0 hml hv
  obtain ⟨rfl, hP, hD, hK, hE, hB⟩ := hv
  have hx := B0.exec
  have hb := B0.bytes
  have hr := B0.returns
  have hts := atoms_spec (ws := wsX4_weightInLesson) B0.pre
  have hown : s.vm.findClass RX4 = some m.cls := findClass_of_methodNamed B0.named
  have hlocks := B0.notSynchronized
  have hA : ∀ q : Nat, s.heap.size ≤ q → zAb B q := fun q hq => Nat.le_trans hB hq
  have hS : va_S (zAb B) s.heap s.heap [] := va_S.rf
  have hl := lv_entry ([.ref (h 0), .long w]) (n := 8) (Nat.le_of_ble_eq_true rfl)
  rw [lg_entry_eq]
  generalize (lg_sl ([.ref (h 0), .long w]) ++ List.replicate (8 - (lg_sl ([.ref (h 0), .long w])).length) Slot.unset).toArray = ls at hl ⊢
  have hl : lv_has ls 8 [(0, .ref (h 0)), (1, .long w)] := hl
  have hinX4 : ∀ w ∈ wsX40, w ∈ wsX4_weightInLesson := fun _ h => List.mem_cons_of_mem _ (List.mem_append_left _ (List.mem_append_left _ (List.mem_append_right _ h)))
  have hP : va_P D vwCl (zWT cI cJ h (n, L) (kt, km, kl) (pt, pm, pl) (nu, le, ow, fo, run, wc, lc, tr, cl, tm, ms) (yl, yc, yt, co, pa, su, sc) mc ++ R) s.heap := hP
  have hD : va_D (zAb B) (zWT cI cJ h (n, L) (kt, km, kl) (pt, pm, pl) (nu, le, ow, fo, run, wc, lc, tr, cl, tm, ms) (yl, yc, yt, co, pa, su, sc) mc ++ R) := hD
  have h8 := zsz_le w
  refine lv_lload_n hx hb dX4_weightInLesson_0 rfl (lv_at hl 1 rfl) ?_
  refine zci (zrS (As := [.long w]) (rest := []) ⟨hx, hb, hml, hown, hts⟩ (zS hP hD hK hE hB hS) (c_X4_lengthOf  ) (va_cwS 1 hts gX4_weightInLesson_X4_lengthOf rfl rfl rfl hds_X4_lengthOf ⟨Nat.le_of_ble_eq_true rfl, Nat.le_of_ble_eq_true rfl⟩) rfl rfl hl.1 rfl (lv_room (Nat.le_of_ble_eq_true rfl)) dX4_weightInLesson_1 ⟨Nat.le_of_ble_eq_true rfl, Nat.le_of_ble_eq_true rfl⟩) hS (fun H locs hP hD hS => ?_)
  have hP : va_P D vwCl (zWT cI cJ h (n, L) (kt, km, kl) (pt, pm, pl) (nu, le, ow, fo, run, wc, lc, tr, cl, tm, ms) (yl, yc, yt, co, pa, su, sc) mc ++ R) _ := hP
  have hD : va_D (zAb B) (zWT cI cJ h (n, L) (kt, km, kl) (pt, pm, pl) (nu, le, ow, fo, run, wc, lc, tr, cl, tm, ms) (yl, yc, yt, co, pa, su, sc) mc ++ R) := hD
  refine lv_istore_n (lv' := [(3, .int (nI (zsz w))), (0, .ref (h 0)), (1, .long w)]) hx hb dX4_weightInLesson_4 rfl hl (by decide) rfl (fun ls hl => ?_)
  refine lv_aload_n hx hb dX4_weightInLesson_5 rfl (lv_at hl 1 rfl) ?_
  refine lv_lload_n hx hb dX4_weightInLesson_6 rfl (lv_at hl 2 rfl) ?_
  refine zci (zrV (As := [.long w]) (rest := []) ⟨hx, hb, hml, hown, hts⟩ (zV 0 hP hD hK hE hB hS rfl rfl) (c_X4_weightOf  (by omega)) (cwV 1 hts gX4_weightInLesson_X4_weightOf rfl rfl rfl hdv_X4_weightOf ⟨Nat.le_of_ble_eq_true rfl, Nat.le_of_ble_eq_true rfl⟩) rfl rfl hl.1 rfl (lv_room (Nat.le_of_ble_eq_true rfl)) dX4_weightInLesson_7 ⟨Nat.le_of_ble_eq_true rfl, Nat.le_of_ble_eq_true rfl⟩) hS (fun H locs hP hD hS => ?_)
  have hP : va_P D vwCl (zWT cI cJ h (n, L) (kt, km, kl) (pt, pm, pl) (nu, le, ow, fo, run, wc, lc, tr, cl, tm, ms) (yl, yc, yt, co, pa, su, sc) mc ++ R) _ := hP
  have hD : va_D (zAb B) (zWT cI cJ h (n, L) (kt, km, kl) (pt, pm, pl) (nu, le, ow, fo, run, wc, lc, tr, cl, tm, ms) (yl, yc, yt, co, pa, su, sc) mc ++ R) := hD
  refine lv_istore (lv' := [(4, .int (zwg kl pt pl w)), (3, .int (nI (zsz w))), (0, .ref (h 0)), (1, .long w)]) hx hb dX4_weightInLesson_10 hl (by decide) rfl (fun ls hl => ?_)
  refine lv_iconst (v := 1) hx hb dX4_weightInLesson_12 (by decide) ?_
  refine lv_istore (lv' := [(5, .int 1), (4, .int (zwg kl pt pl w)), (3, .int (nI (zsz w))), (0, .ref (h 0)), (1, .long w)]) hx hb dX4_weightInLesson_13 hl (by decide) rfl (fun ls hl => ?_)
  refine zloop (σ := (Nat) × (Int32)) (nL := 8) (fun x9 => (zWT cI cJ h (n, L) (kt, km, kl) (pt, pm, pl) (nu, le, ow, fo, run, wc, lc, tr, cl, tm, ms) (yl, yc, yt, co, pa, su, sc) mc ++ R)) (fun x9 => [(5, .int (nI (x9.1 + 1))), (4, .int x9.2), (3, .int (nI (zsz w))), (0, .ref (h 0)), (1, .long w)]) (fun x9 => []) (fun x9 => (x9.1 + 1 ≤ zsz w) ∧ x9.2 = zwi (zfh fo) w (zwg kl pt pl w) x9.1) (fun x9 => zsz w - x9.1) ?_ (0, zwg kl pt pl w) (⟨by omega, rfl⟩) _ _ _ hP hD hS (lv_sub hl [0, 1, 2, 3, 4] rfl)
  rintro ⟨j, z⟩ hI ih H locs ls hP hD hS hl
  try dsimp only at hI ih hP hD hS hl ⊢
  obtain ⟨hI, rfl⟩ := hI
  refine lv_iload hx hb dX4_weightInLesson_15 (lv_at hl 0 rfl) ?_
  refine lv_iload_n hx hb dX4_weightInLesson_17 rfl (lv_at hl 2 rfl) ?_
  refine lv_icmp_ge (tgt := 67) hx hb dX4_weightInLesson_18 (by decide) (fun c_1 => ?_) (fun c_1 => ?_)
  · skip
    have c_1 : (zsz w) ≤ (j + 1) := (nI_leI (a := (zsz w)) (b := (j + 1)) (by omega) (by omega)).mp c_1
    obtain rfl : zsz w - 1 = j := by omega
    refine lv_iload hx hb dX4_weightInLesson_67 (lv_at hl 1 rfl) ?_
    exact W.iret (v := (zwi (zfh fo) w (zwg kl pt pl w) (zsz w - 1))) hx hb hr (fun t ht hW => ⟨⟨_, (), rfl, rfl, by rw [ht]; exact hP, hD⟩, hS.F ht⟩) hS.2.2 dX4_weightInLesson_69
  · skip
    have c_1 : ¬ (zsz w) ≤ (j + 1) := fun hh => c_1 ((nI_leI (a := (zsz w)) (b := (j + 1)) (by omega) (by omega)).mpr hh)
    refine lv_lload_n hx hb dX4_weightInLesson_21 rfl (lv_at hl 4 rfl) ?_
    refine lv_iload_n hx hb dX4_weightInLesson_22 rfl (lv_at hl 2 rfl) ?_
    refine lv_iload hx hb dX4_weightInLesson_23 (lv_at hl 0 rfl) ?_
    refine lv_iconst (v := 1) hx hb dX4_weightInLesson_25 (by decide) ?_
    refine lv_isub hx hb dX4_weightInLesson_26 ?_
    refine lv_topi (fun v_2 ev_2 => ?_)
    obtain rfl : v_2 = (nI j) := ev_2.trans ((pk_sub (a := (j + 1)) (b := 1) (by omega)).trans (congrArg nI (by omega)))
    refine zci (zrS (As := [.long w, .int (nI (zsz w)), .int (nI j)]) (rest := []) ⟨hx, hb, hml, hown, hts⟩ (zS hP hD hK hE hB hS) (c_X4_letterOf (ln := (zsz w)) (k := j) (by omega) (by omega)) (va_cwS 3 hts gX4_weightInLesson_X4_letterOf rfl rfl rfl hds_X4_letterOf ⟨Nat.le_of_ble_eq_true rfl, Nat.le_of_ble_eq_true rfl⟩) rfl rfl hl.1 rfl (lv_room (Nat.le_of_ble_eq_true rfl)) dX4_weightInLesson_27 ⟨Nat.le_of_ble_eq_true rfl, Nat.le_of_ble_eq_true rfl⟩) hS (fun H locs hP hD hS => ?_)
    have hP : va_P D vwCl (zWT cI cJ h (n, L) (kt, km, kl) (pt, pm, pl) (nu, le, ow, fo, run, wc, lc, tr, cl, tm, ms) (yl, yc, yt, co, pa, su, sc) mc ++ R) _ := hP
    have hD : va_D (zAb B) (zWT cI cJ h (n, L) (kt, km, kl) (pt, pm, pl) (nu, le, ow, fo, run, wc, lc, tr, cl, tm, ms) (yl, yc, yt, co, pa, su, sc) mc ++ R) := hD
    refine lv_istore (lv' := [(6, .int (zlt w ((zsz w) - 1 - j))), (5, .int (nI (j + 1))), (4, .int (zwi (zfh fo) w (zwg kl pt pl w) j)), (3, .int (nI (zsz w))), (0, .ref (h 0)), (1, .long w)]) hx hb dX4_weightInLesson_30 hl (by decide) rfl (fun ls hl => ?_)
    refine lv_lload_n hx hb dX4_weightInLesson_32 rfl (lv_at hl 5 rfl) ?_
    refine lv_iload_n hx hb dX4_weightInLesson_33 rfl (lv_at hl 3 rfl) ?_
    refine lv_iload hx hb dX4_weightInLesson_34 (lv_at hl 1 rfl) ?_
    refine zci (zrS (As := [.long w, .int (nI (zsz w)), .int (nI (j + 1))]) (rest := []) ⟨hx, hb, hml, hown, hts⟩ (zS hP hD hK hE hB hS) (c_X4_letterOf (ln := (zsz w)) (k := (j + 1)) (by omega) (by omega)) (va_cwS 3 hts gX4_weightInLesson_X4_letterOf rfl rfl rfl hds_X4_letterOf ⟨Nat.le_of_ble_eq_true rfl, Nat.le_of_ble_eq_true rfl⟩) rfl rfl hl.1 rfl (lv_room (Nat.le_of_ble_eq_true rfl)) dX4_weightInLesson_36 ⟨Nat.le_of_ble_eq_true rfl, Nat.le_of_ble_eq_true rfl⟩) hS (fun H locs hP hD hS => ?_)
    have hP : va_P D vwCl (zWT cI cJ h (n, L) (kt, km, kl) (pt, pm, pl) (nu, le, ow, fo, run, wc, lc, tr, cl, tm, ms) (yl, yc, yt, co, pa, su, sc) mc ++ R) _ := hP
    have hD : va_D (zAb B) (zWT cI cJ h (n, L) (kt, km, kl) (pt, pm, pl) (nu, le, ow, fo, run, wc, lc, tr, cl, tm, ms) (yl, yc, yt, co, pa, su, sc) mc ++ R) := hD
    refine lv_istore (lv' := [(7, .int (zlt w ((zsz w) - 1 - (j + 1)))), (6, .int (zlt w ((zsz w) - 1 - j))), (5, .int (nI (j + 1))), (4, .int (zwi (zfh fo) w (zwg kl pt pl w) j)), (3, .int (nI (zsz w))), (0, .ref (h 0)), (1, .long w)]) hx hb dX4_weightInLesson_39 hl (by decide) rfl (fun ls hl => ?_)
    refine lv_aload_n hx hb dX4_weightInLesson_41 rfl (lv_at hl 5 rfl) ?_
    refine va_get (ci := 4) (v := .ref (h 11)) (C := RX4) (T := TX4) (N := 6) hx hb hts hinX4 hown hK hP 0 rfl rfl 3 (by decide) (hts (.fieldLink RX4 31 "TypingTutor" "current" "LTypingTutor$Lesson;") (List.mem_of_getElem? (i := 1) rfl)) (fun _ h9 => h9) rfl dX4_weightInLesson_42 ?_
    refine lv_iload hx hb dX4_weightInLesson_45 (lv_at hl 1 rfl) ?_
    refine lv_iload hx hb dX4_weightInLesson_47 (lv_at hl 0 rfl) ?_
    refine zci (zrV (As := [.int (zlt w ((zsz w) - 1 - j)), .int (zlt w ((zsz w) - 1 - (j + 1)))]) (rest := []) ⟨hx, hb, hml, hown, hts⟩ (zV 11 hP hD hK hE hB hS rfl rfl) (c_X2_hasPair  ) (cwV 2 hts gX4_weightInLesson_X2_hasPair rfl rfl rfl hdv_X2_hasPair ⟨Nat.le_of_ble_eq_true rfl, Nat.le_of_ble_eq_true rfl⟩) rfl rfl hl.1 rfl (lv_room (Nat.le_of_ble_eq_true rfl)) dX4_weightInLesson_49 ⟨Nat.le_of_ble_eq_true rfl, Nat.le_of_ble_eq_true rfl⟩) hS (fun H locs hP hD hS => ?_)
    have hP : va_P D vwCl (zWT cI cJ h (n, L) (kt, km, kl) (pt, pm, pl) (nu, le, ow, fo, run, wc, lc, tr, cl, tm, ms) (yl, yc, yt, co, pa, su, sc) mc ++ R) _ := hP
    have hD : va_D (zAb B) (zWT cI cJ h (n, L) (kt, km, kl) (pt, pm, pl) (nu, le, ow, fo, run, wc, lc, tr, cl, tm, ms) (yl, yc, yt, co, pa, su, sc) mc ++ R) := hD
    refine lv_if_eq (tgt := 61) hx hb dX4_weightInLesson_52 (by decide) (fun c_3 => ?_) (fun c_3 => ?_)
    · skip
      have c_3 : (zfh fo (zlt w ((zsz w) - 1 - j)) (zlt w ((zsz w) - 1 - (j + 1)))) = false := zb_0 c_3
      refine lv_iinc (v := (nI ((j + 1) + 1))) (lv' := [(5, .int (nI ((j + 1) + 1))), (7, .int (zlt w ((zsz w) - 1 - (j + 1)))), (6, .int (zlt w ((zsz w) - 1 - j))), (4, .int (zwi (zfh fo) w (zwg kl pt pl w) j)), (3, .int (nI (zsz w))), (0, .ref (h 0)), (1, .long w)]) hx hb dX4_weightInLesson_61 hl (k := 2) rfl (nI_add (j + 1) 1) (by decide) rfl (fun ls hl => ?_)
      refine lv_goto (tgt := 15) hx hb dX4_weightInLesson_64 (by decide) ?_
      exact ih (j + 1, (zwi (zfh fo) w (zwg kl pt pl w) j)) (⟨by omega, (if_neg (by rw [c_3]; decide)).symm⟩) (by omega) _ _ _ hP hD hS (lv_sub hl [0, 3, 4, 5, 6] rfl)
    · skip
      have c_3 : (zfh fo (zlt w ((zsz w) - 1 - j)) (zlt w ((zsz w) - 1 - (j + 1)))) = true := zb_n c_3
      refine lv_iincW (v := ((zwi (zfh fo) w (zwg kl pt pl w) j) + (-150))) (lv' := [(4, .int ((zwi (zfh fo) w (zwg kl pt pl w) j) + (-150))), (7, .int (zlt w ((zsz w) - 1 - (j + 1)))), (6, .int (zlt w ((zsz w) - 1 - j))), (5, .int (nI (j + 1))), (3, .int (nI (zsz w))), (0, .ref (h 0)), (1, .long w)]) hx hb dX4_weightInLesson_55 hl (k := 3) rfl (rfl) (by decide) rfl (fun ls hl => ?_)
      refine lv_iinc (v := (nI ((j + 1) + 1))) (lv' := [(5, .int (nI ((j + 1) + 1))), (4, .int ((zwi (zfh fo) w (zwg kl pt pl w) j) + (-150))), (7, .int (zlt w ((zsz w) - 1 - (j + 1)))), (6, .int (zlt w ((zsz w) - 1 - j))), (3, .int (nI (zsz w))), (0, .ref (h 0)), (1, .long w)]) hx hb dX4_weightInLesson_61 hl (k := 3) rfl (nI_add (j + 1) 1) (by decide) rfl (fun ls hl => ?_)
      refine lv_goto (tgt := 15) hx hb dX4_weightInLesson_64 (by decide) ?_
      exact ih (j + 1, ((zwi (zfh fo) w (zwg kl pt pl w) j) + (-150))) (⟨by omega, (if_pos c_3).symm⟩) (by omega) _ _ _ hP hD hS (lv_sub hl [0, 1, 4, 5, 6] rfl)

set_option maxHeartbeats 4000000 in
set_option maxRecDepth 100000 in
theorem c_X4_weakestWordLeft {l : Launch} {B kr kp : Nat} {D : va_G} {cI cJ cZ : ClassId} {h : Nat → Nat} {R : va_W} {n : Nat} {L : Nat → Int64} {kt : Nat → Int32} {km : Nat → Int32} {kl : Nat → Int32} {pt : Nat → Int32} {pm : Nat → Int32} {pl : Nat → Int32} {nu : Nat → Int32} {le : Nat → Int32} {ow : Nat → Int32} {fo : Nat → Int32} {run : Bool} {wc : Nat} {lc : Nat} {tr : Nat} {cl : Nat} {tm : Nat} {ms : Nat} {yl : Nat → Int32} {yc : Nat → Int32} {yt : Nat → Int32} {co : Nat} {pa : Int32} {su : Nat} {sc : Nat} {mc : Nat → Int32}    (hn : n ≤ 40) (hwc : wc ≤ 6) (hL : ∀ j, j < n → 0 < zsz (L j)) : Met l yX4_weakestWordLeft wsX4_weakestWordLeft ({ frames := 5, cells := 0, slots := 0, locals := 116 }) (zPc B kr kp D (zTy cI cJ cZ) (zWT cI cJ h (n, L) (kt, km, kl) (pt, pm, pl) (nu, le, ow, fo, run, wc, lc, tr, cl, tm, ms) (yl, yc, yt, co, pa, su, sc) mc ++ R) [.ref (h 0)]) (zQi B D (zWT cI cJ h (n, L) (kt, km, kl) (pt, pm, pl) (nu, le, ow, fo, run, wc, lc, tr, cl, tm, ms) (yl, yc, yt, co, pa, su, sc) mc ++ R) ((zpk (fun k => zhw nu (nI k) wc) (fun k => zwl (zfh fo) kl pt pl (L k)) n).1)) 0 0 (zAb B) := by
  refine Met.ofW (cc := cX4_weakestWordLeft) (maxL := 5) (ret := (some .int)) (by decide) rfl ?_
  intro p e s m args below meth c s₁ B0 hml hv
  obtain ⟨rfl, hP, hD, hK, hE, hB⟩ := hv
  have hx := B0.exec
  have hb := B0.bytes
  have hr := B0.returns
  have hts := atoms_spec (ws := wsX4_weakestWordLeft) B0.pre
  have hown : s.vm.findClass RX4 = some m.cls := findClass_of_methodNamed B0.named
  have hlocks := B0.notSynchronized
  have hA : ∀ q : Nat, s.heap.size ≤ q → zAb B q := fun q hq => Nat.le_trans hB hq
  have hS : va_S (zAb B) s.heap s.heap [] := va_S.rf
  have hl := lv_entry ([.ref (h 0)]) (n := 5) (Nat.le_of_ble_eq_true rfl)
  rw [lg_entry_eq]
  generalize (lg_sl ([.ref (h 0)]) ++ List.replicate (5 - (lg_sl ([.ref (h 0)])).length) Slot.unset).toArray = ls at hl ⊢
  have hl : lv_has ls 5 [(0, .ref (h 0))] := hl
  have hinX4 : ∀ w ∈ wsX40, w ∈ wsX4_weakestWordLeft := fun _ h => List.mem_cons_of_mem _ (List.mem_append_left _ (List.mem_append_left _ (List.mem_append_left _ (List.mem_append_right _ h))))
  have hP : va_P D vwCl (zWT cI cJ h (n, L) (kt, km, kl) (pt, pm, pl) (nu, le, ow, fo, run, wc, lc, tr, cl, tm, ms) (yl, yc, yt, co, pa, su, sc) mc ++ R) s.heap := hP
  have hD : va_D (zAb B) (zWT cI cJ h (n, L) (kt, km, kl) (pt, pm, pl) (nu, le, ow, fo, run, wc, lc, tr, cl, tm, ms) (yl, yc, yt, co, pa, su, sc) mc ++ R) := hD
  refine lv_iconst (v := (-1)) hx hb dX4_weakestWordLeft_0 (by decide) ?_
  refine lv_istore_n (lv' := [(1, .int (-1)), (0, .ref (h 0))]) hx hb dX4_weakestWordLeft_1 rfl hl (by decide) rfl (fun ls hl => ?_)
  refine lv_iconst (v := 0) hx hb dX4_weakestWordLeft_2 (by decide) ?_
  refine lv_istore_n (lv' := [(2, .int 0), (1, .int (-1)), (0, .ref (h 0))]) hx hb dX4_weakestWordLeft_3 rfl hl (by decide) rfl (fun ls hl => ?_)
  refine lv_iconst (v := 0) hx hb dX4_weakestWordLeft_4 (by decide) ?_
  refine lv_istore_n (lv' := [(3, .int 0), (2, .int 0), (1, .int (-1)), (0, .ref (h 0))]) hx hb dX4_weakestWordLeft_5 rfl hl (by decide) rfl (fun ls hl => ?_)
  refine zloop (σ := (Nat) × (Int32) × (Int32)) (nL := 5) (fun x9 => (zWT cI cJ h (n, L) (kt, km, kl) (pt, pm, pl) (nu, le, ow, fo, run, wc, lc, tr, cl, tm, ms) (yl, yc, yt, co, pa, su, sc) mc ++ R)) (fun x9 => [(3, .int (nI x9.1)), (2, .int x9.2.2), (1, .int x9.2.1), (0, .ref (h 0))]) (fun x9 => []) (fun x9 => (x9.1 ≤ n) ∧ x9.2.1 = (zpk (fun k => zhw nu (nI k) wc) (fun k => zwl (zfh fo) kl pt pl (L k)) x9.1).1 ∧ x9.2.2 = (zpk (fun k => zhw nu (nI k) wc) (fun k => zwl (zfh fo) kl pt pl (L k)) x9.1).2) (fun x9 => n - x9.1) ?_ (0, -1, 0) (⟨by omega, rfl, rfl⟩) _ _ _ hP hD hS (lv_sub hl [0, 1, 2, 3] rfl)
  rintro ⟨j, z1, z2⟩ hI ih H locs ls hP hD hS hl
  try dsimp only at hI ih hP hD hS hl ⊢
  obtain ⟨hI, rfl, rfl⟩ := hI
  refine lv_iload_n hx hb dX4_weakestWordLeft_6 rfl (lv_at hl 0 rfl) ?_
  refine lv_aload_n hx hb dX4_weakestWordLeft_7 rfl (lv_at hl 3 rfl) ?_
  refine va_get (ci := 4) (v := .ref (h 1)) (C := RX4) (T := TX4) (N := 6) hx hb hts hinX4 hown hK hP 0 rfl rfl 0 (by decide) (hts (.fieldLink RX4 12 "TypingTutor" "list" "LTypingTutor$WordList;") (List.mem_of_getElem? (i := 1) rfl)) (fun _ h9 => h9) rfl dX4_weakestWordLeft_8 ?_
  refine zci (zrV (As := []) (rest := [.int (nI j)]) ⟨hx, hb, hml, hown, hts⟩ (zV 1 hP hD hK hE hB hS rfl rfl) (c_X3_size  ) (cwV 0 hts gX4_weakestWordLeft_X3_size rfl rfl rfl hdv_X3_size ⟨Nat.le_of_ble_eq_true rfl, Nat.le_of_ble_eq_true rfl⟩) rfl rfl hl.1 rfl (lv_room (Nat.le_of_ble_eq_true rfl)) dX4_weakestWordLeft_11 ⟨Nat.le_of_ble_eq_true rfl, Nat.le_of_ble_eq_true rfl⟩) hS (fun H locs hP hD hS => ?_)
  have hP : va_P D vwCl (zWT cI cJ h (n, L) (kt, km, kl) (pt, pm, pl) (nu, le, ow, fo, run, wc, lc, tr, cl, tm, ms) (yl, yc, yt, co, pa, su, sc) mc ++ R) _ := hP
  have hD : va_D (zAb B) (zWT cI cJ h (n, L) (kt, km, kl) (pt, pm, pl) (nu, le, ow, fo, run, wc, lc, tr, cl, tm, ms) (yl, yc, yt, co, pa, su, sc) mc ++ R) := hD
  refine lv_icmp_ge (tgt := 67) hx hb dX4_weakestWordLeft_14 (by decide) (fun c_1 => ?_) (fun c_1 => ?_)
  · skip
    have c_1 : n ≤ j := (nI_leI (a := n) (b := j) (by omega) (by omega)).mp c_1
    obtain rfl : n = j := by omega
    refine lv_iload_n hx hb dX4_weakestWordLeft_67 rfl (lv_at hl 2 rfl) ?_
    exact W.iret (v := ((zpk (fun k => zhw nu (nI k) wc) (fun k => zwl (zfh fo) kl pt pl (L k)) n).1)) hx hb hr (fun t ht hW => ⟨⟨_, (), rfl, rfl, by rw [ht]; exact hP, hD⟩, hS.F ht⟩) hS.2.2 dX4_weakestWordLeft_68
  · skip
    have c_1 : ¬ n ≤ j := fun hh => c_1 ((nI_leI (a := n) (b := j) (by omega) (by omega)).mpr hh)
    refine lv_aload_n hx hb dX4_weakestWordLeft_17 rfl (lv_at hl 3 rfl) ?_
    refine va_get (ci := 4) (v := .ref (h 11)) (C := RX4) (T := TX4) (N := 6) hx hb hts hinX4 hown hK hP 0 rfl rfl 3 (by decide) (hts (.fieldLink RX4 31 "TypingTutor" "current" "LTypingTutor$Lesson;") (List.mem_of_getElem? (i := 2) rfl)) (fun _ h9 => h9) rfl dX4_weakestWordLeft_18 ?_
    refine lv_iload_n hx hb dX4_weakestWordLeft_21 rfl (lv_at hl 0 rfl) ?_
    refine zci (zrV (As := [.int (nI j)]) (rest := []) ⟨hx, hb, hml, hown, hts⟩ (zV 11 hP hD hK hE hB hS rfl rfl) (c_X2_hasWord  (by omega)) (cwV 1 hts gX4_weakestWordLeft_X2_hasWord rfl rfl rfl hdv_X2_hasWord ⟨Nat.le_of_ble_eq_true rfl, Nat.le_of_ble_eq_true rfl⟩) rfl rfl hl.1 rfl (lv_room (Nat.le_of_ble_eq_true rfl)) dX4_weakestWordLeft_22 ⟨Nat.le_of_ble_eq_true rfl, Nat.le_of_ble_eq_true rfl⟩) hS (fun H locs hP hD hS => ?_)
    have hP : va_P D vwCl (zWT cI cJ h (n, L) (kt, km, kl) (pt, pm, pl) (nu, le, ow, fo, run, wc, lc, tr, cl, tm, ms) (yl, yc, yt, co, pa, su, sc) mc ++ R) _ := hP
    have hD : va_D (zAb B) (zWT cI cJ h (n, L) (kt, km, kl) (pt, pm, pl) (nu, le, ow, fo, run, wc, lc, tr, cl, tm, ms) (yl, yc, yt, co, pa, su, sc) mc ++ R) := hD
    refine lv_if_eq (tgt := 31) hx hb dX4_weakestWordLeft_25 (by decide) (fun c_2 => ?_) (fun c_2 => ?_)
    · skip
      have c_2 : (zhw nu (nI j) wc) = false := zb_0 c_2
      refine lv_aload_n hx hb dX4_weakestWordLeft_31 rfl (lv_at hl 3 rfl) ?_
      refine lv_aload_n hx hb dX4_weakestWordLeft_32 rfl (lv_at hl 3 rfl) ?_
      refine va_get (ci := 4) (v := .ref (h 1)) (C := RX4) (T := TX4) (N := 6) hx hb hts hinX4 hown hK hP 0 rfl rfl 0 (by decide) (hts (.fieldLink RX4 12 "TypingTutor" "list" "LTypingTutor$WordList;") (List.mem_of_getElem? (i := 1) rfl)) (fun _ h9 => h9) rfl dX4_weakestWordLeft_33 ?_
      refine lv_iload_n hx hb dX4_weakestWordLeft_36 rfl (lv_at hl 0 rfl) ?_
      refine zcl (zrV (As := [.int (nI j)]) (rest := [.ref (h 0)]) ⟨hx, hb, hml, hown, hts⟩ (zV 1 hP hD hK hE hB hS rfl rfl) (c_X3_wordAt (k := j) (by omega)) (cwV 1 hts gX4_weakestWordLeft_X3_wordAt rfl rfl rfl hdv_X3_wordAt ⟨Nat.le_of_ble_eq_true rfl, Nat.le_of_ble_eq_true rfl⟩) rfl rfl hl.1 rfl (lv_room (Nat.le_of_ble_eq_true rfl)) dX4_weakestWordLeft_37 ⟨Nat.le_of_ble_eq_true rfl, Nat.le_of_ble_eq_true rfl⟩) hS (fun H locs hP hD hS => ?_)
      have hP : va_P D vwCl (zWT cI cJ h (n, L) (kt, km, kl) (pt, pm, pl) (nu, le, ow, fo, run, wc, lc, tr, cl, tm, ms) (yl, yc, yt, co, pa, su, sc) mc ++ R) _ := hP
      have hD : va_D (zAb B) (zWT cI cJ h (n, L) (kt, km, kl) (pt, pm, pl) (nu, le, ow, fo, run, wc, lc, tr, cl, tm, ms) (yl, yc, yt, co, pa, su, sc) mc ++ R) := hD
      refine zci (zrV (As := [.long (L j)]) (rest := []) ⟨hx, hb, hml, hown, hts⟩ (zV 0 hP hD hK hE hB hS rfl rfl) (c_X4_weightInLesson  (hL j (by omega))) (cwV 1 hts gX4_weakestWordLeft_X4_weightInLesson rfl rfl rfl hdv_X4_weightInLesson ⟨Nat.le_of_ble_eq_true rfl, Nat.le_of_ble_eq_true rfl⟩) rfl rfl hl.1 rfl (lv_room (Nat.le_of_ble_eq_true rfl)) dX4_weakestWordLeft_40 ⟨Nat.le_of_ble_eq_true rfl, Nat.le_of_ble_eq_true rfl⟩) hS (fun H locs hP hD hS => ?_)
      have hP : va_P D vwCl (zWT cI cJ h (n, L) (kt, km, kl) (pt, pm, pl) (nu, le, ow, fo, run, wc, lc, tr, cl, tm, ms) (yl, yc, yt, co, pa, su, sc) mc ++ R) _ := hP
      have hD : va_D (zAb B) (zWT cI cJ h (n, L) (kt, km, kl) (pt, pm, pl) (nu, le, ow, fo, run, wc, lc, tr, cl, tm, ms) (yl, yc, yt, co, pa, su, sc) mc ++ R) := hD
      refine lv_istore (lv' := [(4, .int (zwl (zfh fo) kl pt pl (L j))), (3, .int (nI j)), (2, .int ((zpk (fun k => zhw nu (nI k) wc) (fun k => zwl (zfh fo) kl pt pl (L k)) j).2)), (1, .int ((zpk (fun k => zhw nu (nI k) wc) (fun k => zwl (zfh fo) kl pt pl (L k)) j).1)), (0, .ref (h 0))]) hx hb dX4_weakestWordLeft_43 hl (by decide) rfl (fun ls hl => ?_)
      refine lv_iload_n hx hb dX4_weakestWordLeft_45 rfl (lv_at hl 3 rfl) ?_
      refine lv_iconst (v := (-1)) hx hb dX4_weakestWordLeft_46 (by decide) ?_
      refine lv_icmp_eq (tgt := 56) hx hb dX4_weakestWordLeft_47 (by decide) (fun c_3 => ?_) (fun c_3 => ?_)
      · skip
        refine lv_iload_n hx hb dX4_weakestWordLeft_56 rfl (lv_at hl 1 rfl) ?_
        refine lv_istore_n (lv' := [(1, .int (nI j)), (4, .int (zwl (zfh fo) kl pt pl (L j))), (3, .int (nI j)), (2, .int ((zpk (fun k => zhw nu (nI k) wc) (fun k => zwl (zfh fo) kl pt pl (L k)) j).2)), (0, .ref (h 0))]) hx hb dX4_weakestWordLeft_57 rfl hl (by decide) rfl (fun ls hl => ?_)
        refine lv_iload hx hb dX4_weakestWordLeft_58 (lv_at hl 1 rfl) ?_
        refine lv_istore_n (lv' := [(2, .int (zwl (zfh fo) kl pt pl (L j))), (1, .int (nI j)), (4, .int (zwl (zfh fo) kl pt pl (L j))), (3, .int (nI j)), (0, .ref (h 0))]) hx hb dX4_weakestWordLeft_60 rfl hl (by decide) rfl (fun ls hl => ?_)
        refine lv_iinc (v := (nI (j + 1))) (lv' := [(3, .int (nI (j + 1))), (2, .int (zwl (zfh fo) kl pt pl (L j))), (1, .int (nI j)), (4, .int (zwl (zfh fo) kl pt pl (L j))), (0, .ref (h 0))]) hx hb dX4_weakestWordLeft_61 hl (k := 3) rfl (nI_add j 1) (by decide) rfl (fun ls hl => ?_)
        refine lv_goto (tgt := 6) hx hb dX4_weakestWordLeft_64 (by decide) ?_
        exact ih (j + 1, (nI j), (zwl (zfh fo) kl pt pl (L j))) (⟨by omega, (congrArg Prod.fst (zpk_s2 (ch := (fun k => zhw nu (nI k) wc)) (wt := (fun k => zwl (zfh fo) kl pt pl (L k))) (k := j) c_2 (Or.inl c_3))).symm, (congrArg Prod.snd (zpk_s2 (ch := (fun k => zhw nu (nI k) wc)) (wt := (fun k => zwl (zfh fo) kl pt pl (L k))) (k := j) c_2 (Or.inl c_3))).symm⟩) (by omega) _ _ _ hP hD hS (lv_sub hl [0, 1, 2, 4] rfl)
      · skip
        refine lv_iload hx hb dX4_weakestWordLeft_50 (lv_at hl 0 rfl) ?_
        refine lv_iload_n hx hb dX4_weakestWordLeft_52 rfl (lv_at hl 2 rfl) ?_
        refine lv_icmp_le (tgt := 61) hx hb dX4_weakestWordLeft_53 (by decide) (fun c_4 => ?_) (fun c_4 => ?_)
        · skip
          refine lv_iinc (v := (nI (j + 1))) (lv' := [(3, .int (nI (j + 1))), (4, .int (zwl (zfh fo) kl pt pl (L j))), (2, .int ((zpk (fun k => zhw nu (nI k) wc) (fun k => zwl (zfh fo) kl pt pl (L k)) j).2)), (1, .int ((zpk (fun k => zhw nu (nI k) wc) (fun k => zwl (zfh fo) kl pt pl (L k)) j).1)), (0, .ref (h 0))]) hx hb dX4_weakestWordLeft_61 hl (k := 1) rfl (nI_add j 1) (by decide) rfl (fun ls hl => ?_)
          refine lv_goto (tgt := 6) hx hb dX4_weakestWordLeft_64 (by decide) ?_
          exact ih (j + 1, ((zpk (fun k => zhw nu (nI k) wc) (fun k => zwl (zfh fo) kl pt pl (L k)) j).1), ((zpk (fun k => zhw nu (nI k) wc) (fun k => zwl (zfh fo) kl pt pl (L k)) j).2)) (⟨by omega, (congrArg Prod.fst (zpk_s3 (ch := (fun k => zhw nu (nI k) wc)) (wt := (fun k => zwl (zfh fo) kl pt pl (L k))) (k := j) c_2 c_3 (Int32.not_lt.mpr c_4))).symm, (congrArg Prod.snd (zpk_s3 (ch := (fun k => zhw nu (nI k) wc)) (wt := (fun k => zwl (zfh fo) kl pt pl (L k))) (k := j) c_2 c_3 (Int32.not_lt.mpr c_4))).symm⟩) (by omega) _ _ _ hP hD hS (lv_sub hl [0, 2, 3, 4] rfl)
        · skip
          refine lv_iload_n hx hb dX4_weakestWordLeft_56 rfl (lv_at hl 1 rfl) ?_
          refine lv_istore_n (lv' := [(1, .int (nI j)), (4, .int (zwl (zfh fo) kl pt pl (L j))), (3, .int (nI j)), (2, .int ((zpk (fun k => zhw nu (nI k) wc) (fun k => zwl (zfh fo) kl pt pl (L k)) j).2)), (0, .ref (h 0))]) hx hb dX4_weakestWordLeft_57 rfl hl (by decide) rfl (fun ls hl => ?_)
          refine lv_iload hx hb dX4_weakestWordLeft_58 (lv_at hl 1 rfl) ?_
          refine lv_istore_n (lv' := [(2, .int (zwl (zfh fo) kl pt pl (L j))), (1, .int (nI j)), (4, .int (zwl (zfh fo) kl pt pl (L j))), (3, .int (nI j)), (0, .ref (h 0))]) hx hb dX4_weakestWordLeft_60 rfl hl (by decide) rfl (fun ls hl => ?_)
          refine lv_iinc (v := (nI (j + 1))) (lv' := [(3, .int (nI (j + 1))), (2, .int (zwl (zfh fo) kl pt pl (L j))), (1, .int (nI j)), (4, .int (zwl (zfh fo) kl pt pl (L j))), (0, .ref (h 0))]) hx hb dX4_weakestWordLeft_61 hl (k := 3) rfl (nI_add j 1) (by decide) rfl (fun ls hl => ?_)
          refine lv_goto (tgt := 6) hx hb dX4_weakestWordLeft_64 (by decide) ?_
          exact ih (j + 1, (nI j), (zwl (zfh fo) kl pt pl (L j))) (⟨by omega, (congrArg Prod.fst (zpk_s2 (ch := (fun k => zhw nu (nI k) wc)) (wt := (fun k => zwl (zfh fo) kl pt pl (L k))) (k := j) c_2 (Or.inr (Int32.not_le.mp c_4)))).symm, (congrArg Prod.snd (zpk_s2 (ch := (fun k => zhw nu (nI k) wc)) (wt := (fun k => zwl (zfh fo) kl pt pl (L k))) (k := j) c_2 (Or.inr (Int32.not_le.mp c_4)))).symm⟩) (by omega) _ _ _ hP hD hS (lv_sub hl [0, 1, 2, 4] rfl)
    · skip
      have c_2 : (zhw nu (nI j) wc) = true := zb_n c_2
      refine lv_goto (tgt := 61) hx hb dX4_weakestWordLeft_28 (by decide) ?_
      refine lv_iinc (v := (nI (j + 1))) (lv' := [(3, .int (nI (j + 1))), (2, .int ((zpk (fun k => zhw nu (nI k) wc) (fun k => zwl (zfh fo) kl pt pl (L k)) j).2)), (1, .int ((zpk (fun k => zhw nu (nI k) wc) (fun k => zwl (zfh fo) kl pt pl (L k)) j).1)), (0, .ref (h 0))]) hx hb dX4_weakestWordLeft_61 hl (k := 0) rfl (nI_add j 1) (by decide) rfl (fun ls hl => ?_)
      refine lv_goto (tgt := 6) hx hb dX4_weakestWordLeft_64 (by decide) ?_
      exact ih (j + 1, ((zpk (fun k => zhw nu (nI k) wc) (fun k => zwl (zfh fo) kl pt pl (L k)) j).1), ((zpk (fun k => zhw nu (nI k) wc) (fun k => zwl (zfh fo) kl pt pl (L k)) j).2)) (⟨by omega, (congrArg Prod.fst (zpk_s1 (ch := (fun k => zhw nu (nI k) wc)) (wt := (fun k => zwl (zfh fo) kl pt pl (L k))) (k := j) c_2)).symm, (congrArg Prod.snd (zpk_s1 (ch := (fun k => zhw nu (nI k) wc)) (wt := (fun k => zwl (zfh fo) kl pt pl (L k))) (k := j) c_2)).symm⟩) (by omega) _ _ _ hP hD hS (lv_sub hl [0, 1, 2, 3] rfl)

set_option maxHeartbeats 4000000 in
set_option maxRecDepth 100000 in
theorem c_X4_readR {l : Launch} {B kr kp : Nat} {D : va_G} {cI cJ cZ : ClassId} {ws : va_W} {i : Int32}    : Met l yX4_read wsX4_read ({ frames := 0, cells := 0, slots := 0, locals := 0 }) (zPc B kr kp D (zTy cI cJ cZ) ws [.ref kr, .int i]) (zQi B D ws (zrd 26 zKR i)) 0 0 (zAb B) := by
  refine Met.ofW (cc := cX4_read) (maxL := 2) (ret := (some .int)) (by decide) rfl ?_
  intro p e s m args below meth c s₁ B0 hml hv
  obtain ⟨rfl, hP, hD, hK, hE, hB⟩ := hv
  have hx := B0.exec
  have hb := B0.bytes
  have hr := B0.returns
  have hts := atoms_spec (ws := wsX4_read) B0.pre
  have hown : s.vm.findClass RX4 = some m.cls := findClass_of_methodNamed B0.named
  have hlocks := B0.notSynchronized
  have hA : ∀ q : Nat, s.heap.size ≤ q → zAb B q := fun q hq => Nat.le_trans hB hq
  have hS : va_S (zAb B) s.heap s.heap [] := va_S.rf
  have hl := lv_entry ([.ref kr, .int i]) (n := 2) (Nat.le_of_ble_eq_true rfl)
  rw [lg_entry_eq]
  generalize (lg_sl ([.ref kr, .int i]) ++ List.replicate (2 - (lg_sl ([.ref kr, .int i])).length) Slot.unset).toArray = ls at hl ⊢
  have hl : lv_has ls 2 [(0, .ref kr), (1, .int i)] := hl
  have hP : va_P D vwCl ws s.heap := hP
  have hD : va_D (zAb B) ws := hD
  refine lv_iload_n hx hb dX4_read_0 rfl (lv_at hl 1 rfl) ?_
  refine lv_if_lt (tgt := 16) hx hb dX4_read_1 (by decide) (fun c_1 => ?_) (fun c_1 => ?_)
  · skip
    refine lv_iconst (v := 0) hx hb dX4_read_16 (by decide) ?_
    exact W.iret (v := 0) hx hb hr (fun t ht hW => ⟨⟨_, (), rfl, (if_neg (fun hh => by first | exact c_1 hh.1 | exact absurd hh.2 (Int32.not_lt.mpr c_2) | exact absurd c_1 (Int32.not_lt.mpr hh.1))).symm, by rw [ht]; exact hP, hD⟩, hS.F ht⟩) hS.2.2 dX4_read_17
  · skip
    refine lv_iload_n hx hb dX4_read_4 rfl (lv_at hl 1 rfl) ?_
    refine lv_aload_n hx hb dX4_read_5 rfl (lv_at hl 0 rfl) ?_
    refine va_tlen hx hb hE.2.2.2.1.1.2 hS (v := 26) rfl dX4_read_6 ?_
    refine lv_icmp_ge (tgt := 16) hx hb dX4_read_7 (by decide) (fun c_2 => ?_) (fun c_2 => ?_)
    · skip
      refine lv_iconst (v := 0) hx hb dX4_read_16 (by decide) ?_
      exact W.iret (v := 0) hx hb hr (fun t ht hW => ⟨⟨_, (), rfl, (if_neg (fun hh => by first | exact c_1 hh.1 | exact absurd hh.2 (Int32.not_lt.mpr c_2) | exact absurd c_1 (Int32.not_lt.mpr hh.1))).symm, by rw [ht]; exact hP, hD⟩, hS.F ht⟩) hS.2.2 dX4_read_17
    · skip
      refine lv_aload_n hx hb dX4_read_10 rfl (lv_at hl 0 rfl) ?_
      refine lv_iload_n hx hb dX4_read_11 rfl (lv_at hl 1 rfl) ?_
      refine va_ti hx hb hE.2.2.2.1.1.2 hS ((vp_in_iff).mpr ⟨by have := Int32.not_lt.mp c_1; rw [Int32.le_iff_toInt_le] at this; exact this, by have := Int32.not_le.mp c_2; rw [Int32.lt_iff_toInt_lt] at this; exact this⟩) (v := .int (zKR (i).toNatClampNeg)) rfl dX4_read_12 ?_
      refine lv_goto (tgt := 17) hx hb dX4_read_13 (by decide) ?_
      exact W.iret (v := (zKR (i).toNatClampNeg)) hx hb hr (fun t ht hW => ⟨⟨_, (), rfl, (if_pos ⟨Int32.not_lt.mp c_1, Int32.not_le.mp c_2⟩).symm, by rw [ht]; exact hP, hD⟩, hS.F ht⟩) hS.2.2 dX4_read_17

set_option maxHeartbeats 4000000 in
set_option maxRecDepth 100000 in
theorem c_X4_readP {l : Launch} {B kr kp : Nat} {D : va_G} {cI cJ cZ : ClassId} {ws : va_W} {i : Int32}    : Met l yX4_read wsX4_read ({ frames := 0, cells := 0, slots := 0, locals := 0 }) (zPc B kr kp D (zTy cI cJ cZ) ws [.ref kp, .int i]) (zQi B D ws (zrd 26 zKP i)) 0 0 (zAb B) := by
  refine Met.ofW (cc := cX4_read) (maxL := 2) (ret := (some .int)) (by decide) rfl ?_
  intro p e s m args below meth c s₁ B0 hml hv
  obtain ⟨rfl, hP, hD, hK, hE, hB⟩ := hv
  have hx := B0.exec
  have hb := B0.bytes
  have hr := B0.returns
  have hts := atoms_spec (ws := wsX4_read) B0.pre
  have hown : s.vm.findClass RX4 = some m.cls := findClass_of_methodNamed B0.named
  have hlocks := B0.notSynchronized
  have hA : ∀ q : Nat, s.heap.size ≤ q → zAb B q := fun q hq => Nat.le_trans hB hq
  have hS : va_S (zAb B) s.heap s.heap [] := va_S.rf
  have hl := lv_entry ([.ref kp, .int i]) (n := 2) (Nat.le_of_ble_eq_true rfl)
  rw [lg_entry_eq]
  generalize (lg_sl ([.ref kp, .int i]) ++ List.replicate (2 - (lg_sl ([.ref kp, .int i])).length) Slot.unset).toArray = ls at hl ⊢
  have hl : lv_has ls 2 [(0, .ref kp), (1, .int i)] := hl
  have hP : va_P D vwCl ws s.heap := hP
  have hD : va_D (zAb B) ws := hD
  refine lv_iload_n hx hb dX4_read_0 rfl (lv_at hl 1 rfl) ?_
  refine lv_if_lt (tgt := 16) hx hb dX4_read_1 (by decide) (fun c_1 => ?_) (fun c_1 => ?_)
  · skip
    refine lv_iconst (v := 0) hx hb dX4_read_16 (by decide) ?_
    exact W.iret (v := 0) hx hb hr (fun t ht hW => ⟨⟨_, (), rfl, (if_neg (fun hh => by first | exact c_1 hh.1 | exact absurd hh.2 (Int32.not_lt.mpr c_2) | exact absurd c_1 (Int32.not_lt.mpr hh.1))).symm, by rw [ht]; exact hP, hD⟩, hS.F ht⟩) hS.2.2 dX4_read_17
  · skip
    refine lv_iload_n hx hb dX4_read_4 rfl (lv_at hl 1 rfl) ?_
    refine lv_aload_n hx hb dX4_read_5 rfl (lv_at hl 0 rfl) ?_
    refine va_tlen hx hb hE.2.2.2.1.2.2 hS (v := 26) rfl dX4_read_6 ?_
    refine lv_icmp_ge (tgt := 16) hx hb dX4_read_7 (by decide) (fun c_2 => ?_) (fun c_2 => ?_)
    · skip
      refine lv_iconst (v := 0) hx hb dX4_read_16 (by decide) ?_
      exact W.iret (v := 0) hx hb hr (fun t ht hW => ⟨⟨_, (), rfl, (if_neg (fun hh => by first | exact c_1 hh.1 | exact absurd hh.2 (Int32.not_lt.mpr c_2) | exact absurd c_1 (Int32.not_lt.mpr hh.1))).symm, by rw [ht]; exact hP, hD⟩, hS.F ht⟩) hS.2.2 dX4_read_17
    · skip
      refine lv_aload_n hx hb dX4_read_10 rfl (lv_at hl 0 rfl) ?_
      refine lv_iload_n hx hb dX4_read_11 rfl (lv_at hl 1 rfl) ?_
      refine va_ti hx hb hE.2.2.2.1.2.2 hS ((vp_in_iff).mpr ⟨by have := Int32.not_lt.mp c_1; rw [Int32.le_iff_toInt_le] at this; exact this, by have := Int32.not_le.mp c_2; rw [Int32.lt_iff_toInt_lt] at this; exact this⟩) (v := .int (zKP (i).toNatClampNeg)) rfl dX4_read_12 ?_
      refine lv_goto (tgt := 17) hx hb dX4_read_13 (by decide) ?_
      exact W.iret (v := (zKP (i).toNatClampNeg)) hx hb hr (fun t ht hW => ⟨⟨_, (), rfl, (if_pos ⟨Int32.not_lt.mp c_1, Int32.not_le.mp c_2⟩).symm, by rw [ht]; exact hP, hD⟩, hS.F ht⟩) hS.2.2 dX4_read_17

set_option maxHeartbeats 4000000 in
set_option maxRecDepth 100000 in
theorem c_X4_standSideBySide {l : Launch} {B kr kp : Nat} {D : va_G} {cI cJ cZ : ClassId} {ws : va_W} {a : Int32} {b : Int32}    : Met l yX4_standSideBySide wsX4_standSideBySide ({ frames := 1, cells := 0, slots := 0, locals := 24 }) (zPc B kr kp D (zTy cI cJ cZ) ws [.int a, .int b]) (zQi B D ws (zb (zst a b))) 0 0 (zAb B) := by
  refine Met.ofW (cc := cX4_standSideBySide) (maxL := 4) (ret := (some .boolean)) (by decide) rfl ?_
  intro p e s m args below meth c s₁ B0 hml hv
  obtain ⟨rfl, hP, hD, hK, hE, hB⟩ := hv
  have hx := B0.exec
  have hb := B0.bytes
  have hr := B0.returns
  have hts := atoms_spec (ws := wsX4_standSideBySide) B0.pre
  have hown : s.vm.findClass RX4 = some m.cls := findClass_of_methodNamed B0.named
  have hlocks := B0.notSynchronized
  have hA : ∀ q : Nat, s.heap.size ≤ q → zAb B q := fun q hq => Nat.le_trans hB hq
  have hS : va_S (zAb B) s.heap s.heap [] := va_S.rf
  have hl := lv_entry ([.int a, .int b]) (n := 4) (Nat.le_of_ble_eq_true rfl)
  rw [lg_entry_eq]
  generalize (lg_sl ([.int a, .int b]) ++ List.replicate (4 - (lg_sl ([.int a, .int b])).length) Slot.unset).toArray = ls at hl ⊢
  have hl : lv_has ls 4 [(0, .int a), (1, .int b)] := hl
  have hP : va_P D vwCl ws s.heap := hP
  have hD : va_D (zAb B) ws := hD
  refine va_gets hx hb hE.2.2.1.1 hS hown (hts (.fieldLink RX4 216 "TypingTutor" "KEY_ROW" "[I") (List.mem_of_getElem? (i := 1) rfl)) (fun _ h9 => h9) dX4_standSideBySide_0 ?_
  refine lv_iload_n hx hb dX4_standSideBySide_3 rfl (lv_at hl 0 rfl) ?_
  refine zci (zrS (As := [.ref kr, .int a]) (rest := []) ⟨hx, hb, hml, hown, hts⟩ (zS hP hD hK hE hB hS) (c_X4_readR (ws := _)) (va_cwS 2 hts gX4_standSideBySide_X4_read rfl rfl rfl hds_X4_read ⟨Nat.le_of_ble_eq_true rfl, Nat.le_of_ble_eq_true rfl⟩) rfl rfl hl.1 rfl (lv_room (Nat.le_of_ble_eq_true rfl)) dX4_standSideBySide_4 ⟨Nat.le_of_ble_eq_true rfl, Nat.le_of_ble_eq_true rfl⟩) hS (fun H locs hP hD hS => ?_)
  refine va_gets hx hb hE.2.2.1.1 hS hown (hts (.fieldLink RX4 216 "TypingTutor" "KEY_ROW" "[I") (List.mem_of_getElem? (i := 1) rfl)) (fun _ h9 => h9) dX4_standSideBySide_7 ?_
  refine lv_iload_n hx hb dX4_standSideBySide_10 rfl (lv_at hl 1 rfl) ?_
  refine zci (zrS (As := [.ref kr, .int b]) (rest := [.int (zrd 26 zKR a)]) ⟨hx, hb, hml, hown, hts⟩ (zS hP hD hK hE hB hS) (c_X4_readR (ws := _)) (va_cwS 2 hts gX4_standSideBySide_X4_read rfl rfl rfl hds_X4_read ⟨Nat.le_of_ble_eq_true rfl, Nat.le_of_ble_eq_true rfl⟩) rfl rfl hl.1 rfl (lv_room (Nat.le_of_ble_eq_true rfl)) dX4_standSideBySide_11 ⟨Nat.le_of_ble_eq_true rfl, Nat.le_of_ble_eq_true rfl⟩) hS (fun H locs hP hD hS => ?_)
  refine lv_isub hx hb dX4_standSideBySide_14 ?_
  refine va_mabs hx hb (hml.trans hl.1.symm) hown (hts (.methodLink RX4 219 Lib.Math.abs.name) (List.mem_of_getElem? (i := 2) rfl)) (hts (.static Lib.Math.abs.name) (List.mem_of_getElem? (i := 3) rfl)) (hts (.initialized "java/lang/Math") (List.mem_of_getElem? (i := 4) rfl)) (hts (.code Lib.Math.abs.name Lib.Math.abs.code 1 (some .int)) (List.mem_of_getElem? (i := 5) rfl)) (Nat.le_of_ble_eq_true rfl) (Nat.le_of_ble_eq_true rfl) (Nat.zero_le _) (Nat.zero_le _) dX4_standSideBySide_15 ?_
  refine lv_istore_n (lv' := [(2, .int (zab ((zrd 26 zKR a) - (zrd 26 zKR b)))), (0, .int a), (1, .int b)]) hx hb dX4_standSideBySide_18 rfl hl (by decide) rfl (fun ls hl => ?_)
  refine va_gets hx hb hE.2.2.1.2 hS hown (hts (.fieldLink RX4 224 "TypingTutor" "KEY_PLACE" "[I") (List.mem_of_getElem? (i := 6) rfl)) (fun _ h9 => h9) dX4_standSideBySide_19 ?_
  refine lv_iload_n hx hb dX4_standSideBySide_22 rfl (lv_at hl 1 rfl) ?_
  refine zci (zrS (As := [.ref kp, .int a]) (rest := []) ⟨hx, hb, hml, hown, hts⟩ (zS hP hD hK hE hB hS) (c_X4_readP (ws := _)) (va_cwS 2 hts gX4_standSideBySide_X4_read rfl rfl rfl hds_X4_read ⟨Nat.le_of_ble_eq_true rfl, Nat.le_of_ble_eq_true rfl⟩) rfl rfl hl.1 rfl (lv_room (Nat.le_of_ble_eq_true rfl)) dX4_standSideBySide_23 ⟨Nat.le_of_ble_eq_true rfl, Nat.le_of_ble_eq_true rfl⟩) hS (fun H locs hP hD hS => ?_)
  refine va_gets hx hb hE.2.2.1.2 hS hown (hts (.fieldLink RX4 224 "TypingTutor" "KEY_PLACE" "[I") (List.mem_of_getElem? (i := 6) rfl)) (fun _ h9 => h9) dX4_standSideBySide_26 ?_
  refine lv_iload_n hx hb dX4_standSideBySide_29 rfl (lv_at hl 2 rfl) ?_
  refine zci (zrS (As := [.ref kp, .int b]) (rest := [.int (zrd 26 zKP a)]) ⟨hx, hb, hml, hown, hts⟩ (zS hP hD hK hE hB hS) (c_X4_readP (ws := _)) (va_cwS 2 hts gX4_standSideBySide_X4_read rfl rfl rfl hds_X4_read ⟨Nat.le_of_ble_eq_true rfl, Nat.le_of_ble_eq_true rfl⟩) rfl rfl hl.1 rfl (lv_room (Nat.le_of_ble_eq_true rfl)) dX4_standSideBySide_30 ⟨Nat.le_of_ble_eq_true rfl, Nat.le_of_ble_eq_true rfl⟩) hS (fun H locs hP hD hS => ?_)
  refine lv_isub hx hb dX4_standSideBySide_33 ?_
  refine va_mabs hx hb (hml.trans hl.1.symm) hown (hts (.methodLink RX4 219 Lib.Math.abs.name) (List.mem_of_getElem? (i := 2) rfl)) (hts (.static Lib.Math.abs.name) (List.mem_of_getElem? (i := 3) rfl)) (hts (.initialized "java/lang/Math") (List.mem_of_getElem? (i := 4) rfl)) (hts (.code Lib.Math.abs.name Lib.Math.abs.code 1 (some .int)) (List.mem_of_getElem? (i := 5) rfl)) (Nat.le_of_ble_eq_true rfl) (Nat.le_of_ble_eq_true rfl) (Nat.zero_le _) (Nat.zero_le _) dX4_standSideBySide_34 ?_
  refine lv_istore_n (lv' := [(3, .int (zab ((zrd 26 zKP a) - (zrd 26 zKP b)))), (2, .int (zab ((zrd 26 zKR a) - (zrd 26 zKR b)))), (0, .int a), (1, .int b)]) hx hb dX4_standSideBySide_37 rfl hl (by decide) rfl (fun ls hl => ?_)
  refine lv_iload_n hx hb dX4_standSideBySide_38 rfl (lv_at hl 1 rfl) ?_
  refine lv_if_ne (tgt := 55) hx hb dX4_standSideBySide_39 (by decide) (fun c_1 => ?_) (fun c_1 => ?_)
  · skip
    refine lv_iload_n hx hb dX4_standSideBySide_55 rfl (lv_at hl 1 rfl) ?_
    refine lv_iconst (v := 1) hx hb dX4_standSideBySide_56 (by decide) ?_
    refine lv_icmp_ne (tgt := 69) hx hb dX4_standSideBySide_57 (by decide) (fun c_2 => ?_) (fun c_2 => ?_)
    · skip
      refine lv_iconst (v := 0) hx hb dX4_standSideBySide_69 (by decide) ?_
      exact W.zret (v := 0) hx hb hr rfl (fun t ht hW => ⟨⟨_, (), rfl, zb_f ((if_neg c_1).trans (by rw [decide_eq_false c_2, Bool.false_and])), by rw [ht]; exact hP, hD⟩, hS.F ht⟩) hS.2.2 dX4_standSideBySide_70
    · skip
      refine lv_iload_n hx hb dX4_standSideBySide_60 rfl (lv_at hl 0 rfl) ?_
      refine lv_iconst (v := 1) hx hb dX4_standSideBySide_61 (by decide) ?_
      refine lv_icmp_gt (tgt := 69) hx hb dX4_standSideBySide_62 (by decide) (fun c_3 => ?_) (fun c_3 => ?_)
      · skip
        refine lv_iconst (v := 0) hx hb dX4_standSideBySide_69 (by decide) ?_
        exact W.zret (v := 0) hx hb hr rfl (fun t ht hW => ⟨⟨_, (), rfl, zb_f ((if_neg c_1).trans (by rw [decide_eq_false (Int32.not_le.mpr c_3), Bool.and_false])), by rw [ht]; exact hP, hD⟩, hS.F ht⟩) hS.2.2 dX4_standSideBySide_70
      · skip
        refine lv_iconst (v := 1) hx hb dX4_standSideBySide_65 (by decide) ?_
        refine lv_goto (tgt := 70) hx hb dX4_standSideBySide_66 (by decide) ?_
        exact W.zret (v := 1) hx hb hr rfl (fun t ht hW => ⟨⟨_, (), rfl, zb_t ((if_neg c_1).trans (by rw [decide_eq_true c_2, decide_eq_true (Int32.not_lt.mp c_3)]; rfl)), by rw [ht]; exact hP, hD⟩, hS.F ht⟩) hS.2.2 dX4_standSideBySide_70
  · skip
    refine lv_iload_n hx hb dX4_standSideBySide_42 rfl (lv_at hl 0 rfl) ?_
    refine lv_iconst (v := 1) hx hb dX4_standSideBySide_43 (by decide) ?_
    refine lv_icmp_ne (tgt := 51) hx hb dX4_standSideBySide_44 (by decide) (fun c_4 => ?_) (fun c_4 => ?_)
    · skip
      refine lv_iconst (v := 0) hx hb dX4_standSideBySide_51 (by decide) ?_
      refine lv_goto (tgt := 70) hx hb dX4_standSideBySide_52 (by decide) ?_
      exact W.zret (v := 0) hx hb hr rfl (fun t ht hW => ⟨⟨_, (), rfl, zb_f ((if_pos c_1).trans (decide_eq_false c_4)), by rw [ht]; exact hP, hD⟩, hS.F ht⟩) hS.2.2 dX4_standSideBySide_70
    · skip
      refine lv_iconst (v := 1) hx hb dX4_standSideBySide_47 (by decide) ?_
      refine lv_goto (tgt := 70) hx hb dX4_standSideBySide_48 (by decide) ?_
      exact W.zret (v := 1) hx hb hr rfl (fun t ht hW => ⟨⟨_, (), rfl, zb_t ((if_pos c_1).trans (decide_eq_true c_4)), by rw [ht]; exact hP, hD⟩, hS.F ht⟩) hS.2.2 dX4_standSideBySide_70

set_option maxHeartbeats 4000000 in
set_option maxRecDepth 100000 in
theorem c_X4_kindOfStroke {l : Launch} {B kr kp : Nat} {D : va_G} {cI cJ cZ : ClassId} {h : Nat → Nat} {R : va_W} {n : Nat} {L : Nat → Int64} {kt : Nat → Int32} {km : Nat → Int32} {kl : Nat → Int32} {pt : Nat → Int32} {pm : Nat → Int32} {pl : Nat → Int32} {nu : Nat → Int32} {le : Nat → Int32} {ow : Nat → Int32} {fo : Nat → Int32} {run : Bool} {wc : Nat} {lc : Nat} {tr : Nat} {cl : Nat} {tm : Nat} {ms : Nat} {yl : Nat → Int32} {yc : Nat → Int32} {yt : Nat → Int32} {co : Nat} {pa : Int32} {su : Nat} {sc : Nat} {mc : Nat → Int32} {key : Int32}   (hlc : lc ≤ 48) (htr : tr < 48) : Met l yX4_kindOfStroke wsX4_kindOfStroke ({ frames := 3, cells := 0, slots := 0, locals := 62 }) (zPc B kr kp D (zTy cI cJ cZ) (zWT cI cJ h (n, L) (kt, km, kl) (pt, pm, pl) (nu, le, ow, fo, run, wc, lc, tr, cl, tm, ms) (yl, yc, yt, co, pa, su, sc) mc ++ R) [.ref (h 0), .int key]) (zQi B D (zWT cI cJ h (n, L) (kt, km, kl) (pt, pm, pl) (nu, le, ow, fo, run, wc, lc, tr, cl, tm, ms) (yl, yc, yt, co, pa, su, sc) mc ++ R) (zkd key le ow lc tr)) 0 0 (zAb B) := by
  refine Met.ofW (cc := cX4_kindOfStroke) (maxL := 3) (ret := (some .int)) (by decide) rfl ?_
  intro p e s m args below meth c s₁ B0 hml hv
  obtain ⟨rfl, hP, hD, hK, hE, hB⟩ := hv
  have hx := B0.exec
  have hb := B0.bytes
  have hr := B0.returns
  have hts := atoms_spec (ws := wsX4_kindOfStroke) B0.pre
  have hown : s.vm.findClass RX4 = some m.cls := findClass_of_methodNamed B0.named
  have hlocks := B0.notSynchronized
  have hA : ∀ q : Nat, s.heap.size ≤ q → zAb B q := fun q hq => Nat.le_trans hB hq
  have hS : va_S (zAb B) s.heap s.heap [] := va_S.rf
  have hl := lv_entry ([.ref (h 0), .int key]) (n := 3) (Nat.le_of_ble_eq_true rfl)
  rw [lg_entry_eq]
  generalize (lg_sl ([.ref (h 0), .int key]) ++ List.replicate (3 - (lg_sl ([.ref (h 0), .int key])).length) Slot.unset).toArray = ls at hl ⊢
  have hl : lv_has ls 3 [(0, .ref (h 0)), (1, .int key)] := hl
  have hinX4 : ∀ w ∈ wsX40, w ∈ wsX4_kindOfStroke := fun _ h => List.mem_cons_of_mem _ (List.mem_append_left _ (List.mem_append_right _ h))
  have hP : va_P D vwCl (zWT cI cJ h (n, L) (kt, km, kl) (pt, pm, pl) (nu, le, ow, fo, run, wc, lc, tr, cl, tm, ms) (yl, yc, yt, co, pa, su, sc) mc ++ R) s.heap := hP
  have hD : va_D (zAb B) (zWT cI cJ h (n, L) (kt, km, kl) (pt, pm, pl) (nu, le, ow, fo, run, wc, lc, tr, cl, tm, ms) (yl, yc, yt, co, pa, su, sc) mc ++ R) := hD
  refine lv_aload_n hx hb dX4_kindOfStroke_0 rfl (lv_at hl 0 rfl) ?_
  refine va_get (ci := 4) (v := .ref (h 11)) (C := RX4) (T := TX4) (N := 6) hx hb hts hinX4 hown hK hP 0 rfl rfl 3 (by decide) (hts (.fieldLink RX4 31 "TypingTutor" "current" "LTypingTutor$Lesson;") (List.mem_of_getElem? (i := 1) rfl)) (fun _ h9 => h9) rfl dX4_kindOfStroke_1 ?_
  refine zci (zrV (As := []) (rest := []) ⟨hx, hb, hml, hown, hts⟩ (zV 11 hP hD hK hE hB hS rfl rfl) (c_X2_letterHere  (by omega)) (cwV 0 hts gX4_kindOfStroke_X2_letterHere rfl rfl rfl hdv_X2_letterHere ⟨Nat.le_of_ble_eq_true rfl, Nat.le_of_ble_eq_true rfl⟩) rfl rfl hl.1 rfl (lv_room (Nat.le_of_ble_eq_true rfl)) dX4_kindOfStroke_4 ⟨Nat.le_of_ble_eq_true rfl, Nat.le_of_ble_eq_true rfl⟩) hS (fun H locs hP hD hS => ?_)
  have hP : va_P D vwCl (zWT cI cJ h (n, L) (kt, km, kl) (pt, pm, pl) (nu, le, ow, fo, run, wc, lc, tr, cl, tm, ms) (yl, yc, yt, co, pa, su, sc) mc ++ R) _ := hP
  have hD : va_D (zAb B) (zWT cI cJ h (n, L) (kt, km, kl) (pt, pm, pl) (nu, le, ow, fo, run, wc, lc, tr, cl, tm, ms) (yl, yc, yt, co, pa, su, sc) mc ++ R) := hD
  refine lv_istore_n (lv' := [(2, .int (le tr)), (0, .ref (h 0)), (1, .int key)]) hx hb dX4_kindOfStroke_7 rfl hl (by decide) rfl (fun ls hl => ?_)
  refine lv_iload_n hx hb dX4_kindOfStroke_8 rfl (lv_at hl 2 rfl) ?_
  refine lv_iload_n hx hb dX4_kindOfStroke_9 rfl (lv_at hl 0 rfl) ?_
  refine lv_icmp_ne (tgt := 15) hx hb dX4_kindOfStroke_10 (by decide) (fun c_1 => ?_) (fun c_1 => ?_)
  · skip
    refine lv_iload_n hx hb dX4_kindOfStroke_15 rfl (lv_at hl 2 rfl) ?_
    refine lv_aload_n hx hb dX4_kindOfStroke_16 rfl (lv_at hl 1 rfl) ?_
    refine va_get (ci := 4) (v := .ref (h 11)) (C := RX4) (T := TX4) (N := 6) hx hb hts hinX4 hown hK hP 0 rfl rfl 3 (by decide) (hts (.fieldLink RX4 31 "TypingTutor" "current" "LTypingTutor$Lesson;") (List.mem_of_getElem? (i := 1) rfl)) (fun _ h9 => h9) rfl dX4_kindOfStroke_17 ?_
    refine zci (zrV (As := []) (rest := [.int key]) ⟨hx, hb, hml, hown, hts⟩ (zV 11 hP hD hK hE hB hS rfl rfl) (c_X2_letterAfter  (by omega) (by omega)) (cwV 0 hts gX4_kindOfStroke_X2_letterAfter rfl rfl rfl hdv_X2_letterAfter ⟨Nat.le_of_ble_eq_true rfl, Nat.le_of_ble_eq_true rfl⟩) rfl rfl hl.1 rfl (lv_room (Nat.le_of_ble_eq_true rfl)) dX4_kindOfStroke_20 ⟨Nat.le_of_ble_eq_true rfl, Nat.le_of_ble_eq_true rfl⟩) hS (fun H locs hP hD hS => ?_)
    have hP : va_P D vwCl (zWT cI cJ h (n, L) (kt, km, kl) (pt, pm, pl) (nu, le, ow, fo, run, wc, lc, tr, cl, tm, ms) (yl, yc, yt, co, pa, su, sc) mc ++ R) _ := hP
    have hD : va_D (zAb B) (zWT cI cJ h (n, L) (kt, km, kl) (pt, pm, pl) (nu, le, ow, fo, run, wc, lc, tr, cl, tm, ms) (yl, yc, yt, co, pa, su, sc) mc ++ R) := hD
    refine lv_icmp_ne (tgt := 28) hx hb dX4_kindOfStroke_23 (by decide) (fun c_2 => ?_) (fun c_2 => ?_)
    · skip
      refine lv_iload_n hx hb dX4_kindOfStroke_28 rfl (lv_at hl 2 rfl) ?_
      refine lv_aload_n hx hb dX4_kindOfStroke_29 rfl (lv_at hl 1 rfl) ?_
      refine va_get (ci := 4) (v := .ref (h 11)) (C := RX4) (T := TX4) (N := 6) hx hb hts hinX4 hown hK hP 0 rfl rfl 3 (by decide) (hts (.fieldLink RX4 31 "TypingTutor" "current" "LTypingTutor$Lesson;") (List.mem_of_getElem? (i := 1) rfl)) (fun _ h9 => h9) rfl dX4_kindOfStroke_30 ?_
      refine zci (zrV (As := []) (rest := [.int key]) ⟨hx, hb, hml, hown, hts⟩ (zV 11 hP hD hK hE hB hS rfl rfl) (c_X2_letterBefore  (by omega) (by omega)) (cwV 0 hts gX4_kindOfStroke_X2_letterBefore rfl rfl rfl hdv_X2_letterBefore ⟨Nat.le_of_ble_eq_true rfl, Nat.le_of_ble_eq_true rfl⟩) rfl rfl hl.1 rfl (lv_room (Nat.le_of_ble_eq_true rfl)) dX4_kindOfStroke_33 ⟨Nat.le_of_ble_eq_true rfl, Nat.le_of_ble_eq_true rfl⟩) hS (fun H locs hP hD hS => ?_)
      have hP : va_P D vwCl (zWT cI cJ h (n, L) (kt, km, kl) (pt, pm, pl) (nu, le, ow, fo, run, wc, lc, tr, cl, tm, ms) (yl, yc, yt, co, pa, su, sc) mc ++ R) _ := hP
      have hD : va_D (zAb B) (zWT cI cJ h (n, L) (kt, km, kl) (pt, pm, pl) (nu, le, ow, fo, run, wc, lc, tr, cl, tm, ms) (yl, yc, yt, co, pa, su, sc) mc ++ R) := hD
      refine lv_icmp_ne (tgt := 41) hx hb dX4_kindOfStroke_36 (by decide) (fun c_3 => ?_) (fun c_3 => ?_)
      · skip
        refine lv_iload_n hx hb dX4_kindOfStroke_41 rfl (lv_at hl 2 rfl) ?_
        refine lv_iload_n hx hb dX4_kindOfStroke_42 rfl (lv_at hl 0 rfl) ?_
        refine zci (zrS (As := [.int key, .int (le tr)]) (rest := []) ⟨hx, hb, hml, hown, hts⟩ (zS hP hD hK hE hB hS) (c_X4_standSideBySide  ) (va_cwS 2 hts gX4_kindOfStroke_X4_standSideBySide rfl rfl rfl hds_X4_standSideBySide ⟨Nat.le_of_ble_eq_true rfl, Nat.le_of_ble_eq_true rfl⟩) rfl rfl hl.1 rfl (lv_room (Nat.le_of_ble_eq_true rfl)) dX4_kindOfStroke_43 ⟨Nat.le_of_ble_eq_true rfl, Nat.le_of_ble_eq_true rfl⟩) hS (fun H locs hP hD hS => ?_)
        have hP : va_P D vwCl (zWT cI cJ h (n, L) (kt, km, kl) (pt, pm, pl) (nu, le, ow, fo, run, wc, lc, tr, cl, tm, ms) (yl, yc, yt, co, pa, su, sc) mc ++ R) _ := hP
        have hD : va_D (zAb B) (zWT cI cJ h (n, L) (kt, km, kl) (pt, pm, pl) (nu, le, ow, fo, run, wc, lc, tr, cl, tm, ms) (yl, yc, yt, co, pa, su, sc) mc ++ R) := hD
        refine lv_if_eq (tgt := 53) hx hb dX4_kindOfStroke_46 (by decide) (fun c_4 => ?_) (fun c_4 => ?_)
        · skip
          have c_4 : (zst key (le tr)) = false := zb_0 c_4
          refine lv_iconst (v := 4) hx hb dX4_kindOfStroke_53 (by decide) ?_
          exact W.iret (v := 4) hx hb hr (fun t ht hW => ⟨⟨_, (), rfl, ((if_neg c_1).trans ((if_neg c_2).trans ((if_neg c_3).trans (if_neg (by rw [c_4]; decide))))).symm, by rw [ht]; exact hP, hD⟩, hS.F ht⟩) hS.2.2 dX4_kindOfStroke_54
        · skip
          have c_4 : (zst key (le tr)) = true := zb_n c_4
          refine lv_iconst (v := 3) hx hb dX4_kindOfStroke_49 (by decide) ?_
          refine lv_goto (tgt := 54) hx hb dX4_kindOfStroke_50 (by decide) ?_
          exact W.iret (v := 3) hx hb hr (fun t ht hW => ⟨⟨_, (), rfl, ((if_neg c_1).trans ((if_neg c_2).trans ((if_neg c_3).trans (if_pos c_4)))).symm, by rw [ht]; exact hP, hD⟩, hS.F ht⟩) hS.2.2 dX4_kindOfStroke_54
      · skip
        refine lv_iconst (v := 2) hx hb dX4_kindOfStroke_39 (by decide) ?_
        exact W.iret (v := 2) hx hb hr (fun t ht hW => ⟨⟨_, (), rfl, ((if_neg c_1).trans ((if_neg c_2).trans (if_pos c_3))).symm, by rw [ht]; exact hP, hD⟩, hS.F ht⟩) hS.2.2 dX4_kindOfStroke_40
    · skip
      refine lv_iconst (v := 1) hx hb dX4_kindOfStroke_26 (by decide) ?_
      exact W.iret (v := 1) hx hb hr (fun t ht hW => ⟨⟨_, (), rfl, ((if_neg c_1).trans (if_pos c_2)).symm, by rw [ht]; exact hP, hD⟩, hS.F ht⟩) hS.2.2 dX4_kindOfStroke_27
  · skip
    refine lv_iconst (v := 0) hx hb dX4_kindOfStroke_13 (by decide) ?_
    exact W.iret (v := 0) hx hb hr (fun t ht hW => ⟨⟨_, (), rfl, (if_pos c_1).symm, by rw [ht]; exact hP, hD⟩, hS.F ht⟩) hS.2.2 dX4_kindOfStroke_14
