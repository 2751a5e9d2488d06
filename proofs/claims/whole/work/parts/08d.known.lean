set_option maxHeartbeats 1000000 in
set_option maxRecDepth 100000 in
theorem c_X4_openWord {l : Launch} {B kr kp : Nat} {D : va_G} {cI cJ cZ : ClassId} {h : Nat → Nat} {R : va_W} {n : Nat} {L : Nat → Int64} {kt : Nat → Int32} {km : Nat → Int32} {kl : Nat → Int32} {pt : Nat → Int32} {pm : Nat → Int32} {pl : Nat → Int32} {nu : Nat → Int32} {le : Nat → Int32} {ow : Nat → Int32} {fo : Nat → Int32} {run : Bool} {wc : Nat} {lc : Nat} {tr : Nat} {cl : Nat} {tm : Nat} {ms : Nat} {yl : Nat → Int32} {yc : Nat → Int32} {yt : Nat → Int32} {co : Nat} {pa : Int32} {su : Nat} {sc : Nat} {mc : Nat → Int32} {k : Nat}   (hk : k < n) (hn : n ≤ 40) (hrun : run = false) : Met l yX4_openWord wsX4_openWord ({ frames := 2, cells := 0, slots := 0, locals := 50 }) (zPc B kr kp D (zTy cI cJ cZ) (zWT cI cJ h (n, L) (kt, km, kl) (pt, pm, pl) (nu, le, ow, fo, run, wc, lc, tr, cl, tm, ms) (yl, yc, yt, co, pa, su, sc) mc ++ R) [.ref (h 0), .int (nI k)]) (zQi B D (zWT cI cJ h (n, L) (kt, km, kl) (pt, pm, pl) ((upd nu 0 (nI k)), (zale le 0 (L k) (zsz (L k))), (zaow ow 0 0 (zsz (L k))), (zafo (zfil 26 0 fo) (L k) (zsz (L k))), true, (0 + 1), (0 + zsz (L k)), 0, 0, 0, 0) (yl, yc, yt, co, pa, su, sc) mc ++ R) (nI (0 + zsz (L k)))) 0 0 (zAb B) := by
  refine Met.ofW (cc := cX4_openWord) (maxL := 2) (ret := (some .int)) (by decide) rfl ?_
  intro p e s m args below meth c s₁ B0 hml hv
  obtain ⟨rfl, hP, hD, hK, hE, hB⟩ := hv
  have hx := B0.exec
  have hb := B0.bytes
  have hr := B0.returns
  have hts := atoms_spec (ws := wsX4_openWord) B0.pre
  have hown : s.vm.findClass RX4 = some m.cls := findClass_of_methodNamed B0.named
  have hlocks := B0.notSynchronized
  have hA : ∀ q : Nat, s.heap.size ≤ q → zAb B q := fun q hq => Nat.le_trans hB hq
  have hS : va_S (zAb B) s.heap s.heap [] := va_S.rf
  have hgr : s.heap.size ≤ s.heap.size := Nat.le_refl _
  have hl := lv_entry ([.ref (h 0), .int (nI k)]) (n := 2) (Nat.le_of_ble_eq_true rfl)
  rw [lg_entry_eq]
  generalize (lg_sl ([.ref (h 0), .int (nI k)]) ++ List.replicate (2 - (lg_sl ([.ref (h 0), .int (nI k)])).length) Slot.unset).toArray = ls at hl ⊢
  have hl : lv_has ls 2 [(0, .ref (h 0)), (1, .int (nI k))] := hl
  have hinX4 : ∀ w ∈ wsX40, w ∈ wsX4_openWord := fun _ h => List.mem_cons_of_mem _ (List.mem_append_left _ (List.mem_append_left _ (List.mem_append_left _ (List.mem_append_left _ (List.mem_append_right _ h)))))
  have hP : va_P D vwCl (zWT cI cJ h (n, L) (kt, km, kl) (pt, pm, pl) (nu, le, ow, fo, run, wc, lc, tr, cl, tm, ms) (yl, yc, yt, co, pa, su, sc) mc ++ R) s.heap := hP
  have hD : va_D (zAb B) (zWT cI cJ h (n, L) (kt, km, kl) (pt, pm, pl) (nu, le, ow, fo, run, wc, lc, tr, cl, tm, ms) (yl, yc, yt, co, pa, su, sc) mc ++ R) := hD
  refine lv_aload_n hx hb dX4_openWord_0 rfl (lv_at hl 0 rfl) ?_
  refine va_get (ci := 4) (v := .ref (h 1)) (C := RX4) (T := TX4) (N := 6) hx hb hts hinX4 hown hK hP 0 rfl rfl 0 (by decide) (hts (.fieldLink RX4 12 "TypingTutor" "list" "LTypingTutor$WordList;") (List.mem_of_getElem? (i := 5) rfl)) (fun _ h9 => h9) rfl dX4_openWord_1 ?_
  refine lv_iload_n hx hb dX4_openWord_4 rfl (lv_at hl 1 rfl) ?_
  refine zci (zrV (As := [.int (nI k)]) (rest := []) ⟨hx, hb, hml, hown, hts⟩ (zV 1 hP hD hK hE hB hS rfl rfl) (c_X3_hasNumber (k := k) (by omega) (by omega)) (cwV 1 hts gX4_openWord_X3_hasNumber rfl rfl rfl hdv_X3_hasNumber ⟨Nat.le_of_ble_eq_true rfl, Nat.le_of_ble_eq_true rfl⟩) rfl rfl hl.1 rfl (lv_room (Nat.le_of_ble_eq_true rfl)) dX4_openWord_5 ⟨Nat.le_of_ble_eq_true rfl, Nat.le_of_ble_eq_true rfl⟩) hS (fun H locs hP hD hS => ?_)
  have hP : va_P D vwCl (zWT cI cJ h (n, L) (kt, km, kl) (pt, pm, pl) (nu, le, ow, fo, run, wc, lc, tr, cl, tm, ms) (yl, yc, yt, co, pa, su, sc) mc ++ R) _ := hP
  have hD : va_D (zAb B) (zWT cI cJ h (n, L) (kt, km, kl) (pt, pm, pl) (nu, le, ow, fo, run, wc, lc, tr, cl, tm, ms) (yl, yc, yt, co, pa, su, sc) mc ++ R) := hD
  refine lv_if_ne (tgt := 21) hx hb dX4_openWord_8 (by decide) (fun c_1 => ?_) (fun c_1 => ?_)
  · skip
    refine lv_aload_n hx hb dX4_openWord_21 rfl (lv_at hl 0 rfl) ?_
    refine va_get (ci := 4) (v := .ref (h 11)) (C := RX4) (T := TX4) (N := 6) hx hb hts hinX4 hown hK hP 0 rfl rfl 3 (by decide) (hts (.fieldLink RX4 31 "TypingTutor" "current" "LTypingTutor$Lesson;") (List.mem_of_getElem? (i := 6) rfl)) (fun _ h9 => h9) rfl dX4_openWord_22 ?_
    refine zci (zrV (As := []) (rest := []) ⟨hx, hb, hml, hown, hts⟩ (zV 11 hP hD hK hE hB hS rfl rfl) (c_X2_isRunning  ) (cwV 0 hts gX4_openWord_X2_isRunning rfl rfl rfl hdv_X2_isRunning ⟨Nat.le_of_ble_eq_true rfl, Nat.le_of_ble_eq_true rfl⟩) rfl rfl hl.1 rfl (lv_room (Nat.le_of_ble_eq_true rfl)) dX4_openWord_25 ⟨Nat.le_of_ble_eq_true rfl, Nat.le_of_ble_eq_true rfl⟩) hS (fun H locs hP hD hS => ?_)
    have hP : va_P D vwCl (zWT cI cJ h (n, L) (kt, km, kl) (pt, pm, pl) (nu, le, ow, fo, run, wc, lc, tr, cl, tm, ms) (yl, yc, yt, co, pa, su, sc) mc ++ R) _ := hP
    have hD : va_D (zAb B) (zWT cI cJ h (n, L) (kt, km, kl) (pt, pm, pl) (nu, le, ow, fo, run, wc, lc, tr, cl, tm, ms) (yl, yc, yt, co, pa, su, sc) mc ++ R) := hD
    refine lv_if_eq (tgt := 41) hx hb dX4_openWord_28 (by decide) (fun c_2 => ?_) (fun c_2 => ?_)
    · skip
      have c_2 : run = false := zb_0 c_2
      refine lv_aload_n hx hb dX4_openWord_41 rfl (lv_at hl 0 rfl) ?_
      refine va_get (ci := 4) (v := .ref (h 11)) (C := RX4) (T := TX4) (N := 6) hx hb hts hinX4 hown hK hP 0 rfl rfl 3 (by decide) (hts (.fieldLink RX4 31 "TypingTutor" "current" "LTypingTutor$Lesson;") (List.mem_of_getElem? (i := 6) rfl)) (fun _ h9 => h9) rfl dX4_openWord_42 ?_
      refine zcv (zrV (As := []) (rest := []) ⟨hx, hb, hml, hown, hts⟩ (zV 11 hP hD hK hE hB hS rfl rfl) (c_X2_start  ) (cwV 0 hts gX4_openWord_X2_start rfl rfl rfl hdv_X2_start ⟨Nat.le_of_ble_eq_true rfl, Nat.le_of_ble_eq_true rfl⟩) rfl rfl hl.1 rfl (lv_room (Nat.le_of_ble_eq_true rfl)) dX4_openWord_45 ⟨Nat.le_of_ble_eq_true rfl, Nat.le_of_ble_eq_true rfl⟩) hS (fun H locs hP hD hS => ?_)
      have hP : va_P D vwCl (zWT cI cJ h (n, L) (kt, km, kl) (pt, pm, pl) (nu, le, ow, (zfil 26 0 fo), true, 0, 0, 0, 0, 0, 0) (yl, yc, yt, co, pa, su, sc) mc ++ R) _ := hP
      have hD : va_D (zAb B) (zWT cI cJ h (n, L) (kt, km, kl) (pt, pm, pl) (nu, le, ow, (zfil 26 0 fo), true, 0, 0, 0, 0, 0, 0) (yl, yc, yt, co, pa, su, sc) mc ++ R) := hD
      refine lv_aload_n hx hb dX4_openWord_48 rfl (lv_at hl 0 rfl) ?_
      refine va_get (ci := 4) (v := .ref (h 11)) (C := RX4) (T := TX4) (N := 6) hx hb hts hinX4 hown hK hP 0 rfl rfl 3 (by decide) (hts (.fieldLink RX4 31 "TypingTutor" "current" "LTypingTutor$Lesson;") (List.mem_of_getElem? (i := 6) rfl)) (fun _ h9 => h9) rfl dX4_openWord_49 ?_
      refine lv_iload_n hx hb dX4_openWord_52 rfl (lv_at hl 1 rfl) ?_
      refine lv_aload_n hx hb dX4_openWord_53 rfl (lv_at hl 0 rfl) ?_
      refine va_get (ci := 4) (v := .ref (h 1)) (C := RX4) (T := TX4) (N := 6) hx hb hts hinX4 hown hK hP 0 rfl rfl 0 (by decide) (hts (.fieldLink RX4 12 "TypingTutor" "list" "LTypingTutor$WordList;") (List.mem_of_getElem? (i := 5) rfl)) (fun _ h9 => h9) rfl dX4_openWord_54 ?_
      refine lv_iload_n hx hb dX4_openWord_57 rfl (lv_at hl 1 rfl) ?_
      refine zcl (zrV (As := [.int (nI k)]) (rest := [.int (nI k), .ref (h 11)]) ⟨hx, hb, hml, hown, hts⟩ (zV 1 hP hD hK hE hB hS rfl rfl) (c_X3_wordAt (k := k) (by omega)) (cwV 1 hts gX4_openWord_X3_wordAt rfl rfl rfl hdv_X3_wordAt ⟨Nat.le_of_ble_eq_true rfl, Nat.le_of_ble_eq_true rfl⟩) rfl rfl hl.1 rfl (lv_room (Nat.le_of_ble_eq_true rfl)) dX4_openWord_58 ⟨Nat.le_of_ble_eq_true rfl, Nat.le_of_ble_eq_true rfl⟩) hS (fun H locs hP hD hS => ?_)
      have hP : va_P D vwCl (zWT cI cJ h (n, L) (kt, km, kl) (pt, pm, pl) (nu, le, ow, (zfil 26 0 fo), true, 0, 0, 0, 0, 0, 0) (yl, yc, yt, co, pa, su, sc) mc ++ R) _ := hP
      have hD : va_D (zAb B) (zWT cI cJ h (n, L) (kt, km, kl) (pt, pm, pl) (nu, le, ow, (zfil 26 0 fo), true, 0, 0, 0, 0, 0, 0) (yl, yc, yt, co, pa, su, sc) mc ++ R) := hD
      refine zcv (zrV (As := [.int (nI k), .long (L k)]) (rest := []) ⟨hx, hb, hml, hown, hts⟩ (zV 11 hP hD hK hE hB hS rfl rfl) (c_X2_append  (by omega) (by have := zsz_le (L k); omega)) (cwV 2 hts gX4_openWord_X2_append rfl rfl rfl hdv_X2_append ⟨Nat.le_of_ble_eq_true rfl, Nat.le_of_ble_eq_true rfl⟩) rfl rfl hl.1 rfl (lv_room (Nat.le_of_ble_eq_true rfl)) dX4_openWord_61 ⟨Nat.le_of_ble_eq_true rfl, Nat.le_of_ble_eq_true rfl⟩) hS (fun H locs hP hD hS => ?_)
      have hP : va_P D vwCl (zWT cI cJ h (n, L) (kt, km, kl) (pt, pm, pl) ((upd nu 0 (nI k)), (zale le 0 (L k) (zsz (L k))), (zaow ow 0 0 (zsz (L k))), (zafo (zfil 26 0 fo) (L k) (zsz (L k))), true, (0 + 1), (0 + zsz (L k)), 0, 0, 0, 0) (yl, yc, yt, co, pa, su, sc) mc ++ R) _ := hP
      have hD : va_D (zAb B) (zWT cI cJ h (n, L) (kt, km, kl) (pt, pm, pl) ((upd nu 0 (nI k)), (zale le 0 (L k) (zsz (L k))), (zaow ow 0 0 (zsz (L k))), (zafo (zfil 26 0 fo) (L k) (zsz (L k))), true, (0 + 1), (0 + zsz (L k)), 0, 0, 0, 0) (yl, yc, yt, co, pa, su, sc) mc ++ R) := hD
      refine lv_aload_n hx hb dX4_openWord_64 rfl (lv_at hl 0 rfl) ?_
      refine va_get (ci := 4) (v := .ref (h 11)) (C := RX4) (T := TX4) (N := 6) hx hb hts hinX4 hown hK hP 0 rfl rfl 3 (by decide) (hts (.fieldLink RX4 31 "TypingTutor" "current" "LTypingTutor$Lesson;") (List.mem_of_getElem? (i := 6) rfl)) (fun _ h9 => h9) rfl dX4_openWord_65 ?_
      refine zci (zrV (As := []) (rest := []) ⟨hx, hb, hml, hown, hts⟩ (zV 11 hP hD hK hE hB hS rfl rfl) (c_X2_letterTotal  ) (cwV 0 hts gX4_openWord_X2_letterTotal rfl rfl rfl hdv_X2_letterTotal ⟨Nat.le_of_ble_eq_true rfl, Nat.le_of_ble_eq_true rfl⟩) rfl rfl hl.1 rfl (lv_room (Nat.le_of_ble_eq_true rfl)) dX4_openWord_68 ⟨Nat.le_of_ble_eq_true rfl, Nat.le_of_ble_eq_true rfl⟩) hS (fun H locs hP hD hS => ?_)
      have hP : va_P D vwCl (zWT cI cJ h (n, L) (kt, km, kl) (pt, pm, pl) ((upd nu 0 (nI k)), (zale le 0 (L k) (zsz (L k))), (zaow ow 0 0 (zsz (L k))), (zafo (zfil 26 0 fo) (L k) (zsz (L k))), true, (0 + 1), (0 + zsz (L k)), 0, 0, 0, 0) (yl, yc, yt, co, pa, su, sc) mc ++ R) _ := hP
      have hD : va_D (zAb B) (zWT cI cJ h (n, L) (kt, km, kl) (pt, pm, pl) ((upd nu 0 (nI k)), (zale le 0 (L k) (zsz (L k))), (zaow ow 0 0 (zsz (L k))), (zafo (zfil 26 0 fo) (L k) (zsz (L k))), true, (0 + 1), (0 + zsz (L k)), 0, 0, 0, 0) (yl, yc, yt, co, pa, su, sc) mc ++ R) := hD
      exact W.iret (v := (nI (0 + zsz (L k)))) hx hb hr (fun t ht hW => ⟨⟨_, (), rfl, rfl, by rw [ht]; exact hP, hD⟩, hS.F ht⟩) hS.2.2 dX4_openWord_71
    · skip
      have c_2 : run = true := zb_n c_2
      exact absurd (c_2.symm.trans hrun) (by decide)
  · skip
    exfalso; first | omega | (revert c_1; decide) | (exact absurd rfl c_1) | simp_all

set_option maxHeartbeats 1000000 in
set_option maxRecDepth 100000 in
theorem c_X4_openWord_x1 {l : Launch} {B kr kp : Nat} {D : va_G} {cI cJ cZ : ClassId} {h : Nat → Nat} {R : va_W} {n : Nat} {L : Nat → Int64} {kt : Nat → Int32} {km : Nat → Int32} {kl : Nat → Int32} {pt : Nat → Int32} {pm : Nat → Int32} {pl : Nat → Int32} {nu : Nat → Int32} {le : Nat → Int32} {ow : Nat → Int32} {fo : Nat → Int32} {run : Bool} {wc : Nat} {lc : Nat} {tr : Nat} {cl : Nat} {tm : Nat} {ms : Nat} {yl : Nat → Int32} {yc : Nat → Int32} {yt : Nat → Int32} {co : Nat} {pa : Int32} {su : Nat} {sc : Nat} {mc : Nat → Int32} {i : Int32}   (hls : l.stackTraces = false) (hi : i < 0 ∨ nI n ≤ i) (hn : n ≤ 40) : vx_Met l yX4_openWord wsX4_openWord ({ frames := 6, cells := 1, slots := 6, locals := 82 }) (zPc B kr kp D (zTy cI cJ cZ) (zWT cI cJ h (n, L) (kt, km, kl) (pt, pm, pl) (nu, le, ow, fo, run, wc, lc, tr, cl, tm, ms) (yl, yc, yt, co, pa, su, sc) mc ++ R) [.ref (h 0), .int i]) (zQxi B D (zWT cI cJ h (n, L) (kt, km, kl) (pt, pm, pl) (nu, le, ow, fo, run, wc, lc, tr, cl, tm, ms) (yl, yc, yt, co, pa, su, sc) mc ++ R)) (zXC "java/lang/IndexOutOfBoundsException" B D (zWT cI cJ h (n, L) (kt, km, kl) (pt, pm, pl) (nu, le, ow, fo, run, wc, lc, tr, cl, tm, ms) (yl, yc, yt, co, pa, su, sc) mc ++ R)) 1 6 (zAb B) := by
  refine vx_ofW (cc := cX4_openWord) (maxL := 2) (ret := (some .int)) (by decide) rfl ?_
  intro p e s m args below meth c s₁ B0 hml ht9 hv
  obtain ⟨rfl, hP, hD, hK, hE, hB⟩ := hv
  have hx := B0.exec
  have hb := B0.bytes
  have hr := B0.returns
  have hts := atoms_spec (ws := wsX4_openWord) B0.pre
  have hown : s.vm.findClass RX4 = some m.cls := findClass_of_methodNamed B0.named
  have hlocks := B0.notSynchronized
  have hA : ∀ q : Nat, s.heap.size ≤ q → zAb B q := fun q hq => Nat.le_trans hB hq
  have hS : va_S (zAb B) s.heap s.heap [] := va_S.rf
  have hgr : s.heap.size ≤ s.heap.size := Nat.le_refl _
  have hl := lv_entry ([.ref (h 0), .int i]) (n := 2) (Nat.le_of_ble_eq_true rfl)
  rw [lg_entry_eq]
  generalize (lg_sl ([.ref (h 0), .int i]) ++ List.replicate (2 - (lg_sl ([.ref (h 0), .int i])).length) Slot.unset).toArray = ls at hl ⊢
  have hl : lv_has ls 2 [(0, .ref (h 0)), (1, .int i)] := hl
  have hinX4 : ∀ w ∈ wsX40, w ∈ wsX4_openWord := fun _ h => List.mem_cons_of_mem _ (List.mem_append_left _ (List.mem_append_left _ (List.mem_append_left _ (List.mem_append_left _ (List.mem_append_right _ h)))))
  have hP : va_P D vwCl (zWT cI cJ h (n, L) (kt, km, kl) (pt, pm, pl) (nu, le, ow, fo, run, wc, lc, tr, cl, tm, ms) (yl, yc, yt, co, pa, su, sc) mc ++ R) s.heap := hP
  have hD : va_D (zAb B) (zWT cI cJ h (n, L) (kt, km, kl) (pt, pm, pl) (nu, le, ow, fo, run, wc, lc, tr, cl, tm, ms) (yl, yc, yt, co, pa, su, sc) mc ++ R) := hD
  refine lv_aload_n hx hb dX4_openWord_0 rfl (lv_at hl 0 rfl) ?_
  refine va_get (ci := 4) (v := .ref (h 1)) (C := RX4) (T := TX4) (N := 6) hx hb hts hinX4 hown hK hP 0 rfl rfl 0 (by decide) (hts (.fieldLink RX4 12 "TypingTutor" "list" "LTypingTutor$WordList;") (List.mem_of_getElem? (i := 5) rfl)) (fun _ h9 => h9) rfl dX4_openWord_1 ?_
  refine lv_iload_n hx hb dX4_openWord_4 rfl (lv_at hl 1 rfl) ?_
  refine zci (zrV (As := [.int i]) (rest := []) ⟨hx, hb, hml, hown, hts⟩ (zV 1 hP hD hK hE hB hS rfl rfl) (c_X3_hasNumber_x  (hi) (hn)) (cwV 1 hts gX4_openWord_X3_hasNumber rfl rfl rfl hdv_X3_hasNumber ⟨Nat.le_of_ble_eq_true rfl, Nat.le_of_ble_eq_true rfl⟩) rfl rfl hl.1 rfl (lv_room (Nat.le_of_ble_eq_true rfl)) dX4_openWord_5 ⟨Nat.le_of_ble_eq_true rfl, Nat.le_of_ble_eq_true rfl⟩) hS (fun H locs hP hD hS => ?_)
  have hP : va_P D vwCl (zWT cI cJ h (n, L) (kt, km, kl) (pt, pm, pl) (nu, le, ow, fo, run, wc, lc, tr, cl, tm, ms) (yl, yc, yt, co, pa, su, sc) mc ++ R) _ := hP
  have hD : va_D (zAb B) (zWT cI cJ h (n, L) (kt, km, kl) (pt, pm, pl) (nu, le, ow, fo, run, wc, lc, tr, cl, tm, ms) (yl, yc, yt, co, pa, su, sc) mc ++ R) := hD
  refine lv_if_ne (tgt := 21) hx hb dX4_openWord_8 (by decide) (fun c_1 => ?_) (fun c_1 => ?_)
  · skip
    exfalso; first | omega | (revert c_1; decide) | (exact absurd rfl c_1) | simp_all
  · skip
    exact zthrow hx hb hls hown hE hP hD hS (hl.1.trans hml.symm) ht9 hlocks (by decide +kernel) (List.mem_of_getElem? (i := 2) rfl) (by decide +kernel) (hts (.classLink RX4 81 "java/lang/IndexOutOfBoundsException") (List.mem_of_getElem? (i := 1) rfl)) (hts (.initialized "java/lang/IndexOutOfBoundsException") (List.mem_of_getElem? (i := 2) rfl)) (fun w h9 => hts w (List.mem_cons_of_mem _ (List.mem_append_left _ (List.mem_append_right _ h9)))) (by decide +kernel) (by decide +kernel) dX4_openWord_11 dX4_openWord_14 dX4_openWord_15 dX4_openWord_17 dX4_openWord_20 ⟨Nat.le_of_ble_eq_true rfl, Nat.le_of_ble_eq_true rfl, Nat.le_of_ble_eq_true rfl, Nat.le_of_ble_eq_true rfl⟩

set_option maxHeartbeats 1000000 in
set_option maxRecDepth 100000 in
theorem c_X4_openWord_x2 {l : Launch} {B kr kp : Nat} {D : va_G} {cI cJ cZ : ClassId} {h : Nat → Nat} {R : va_W} {n : Nat} {L : Nat → Int64} {kt : Nat → Int32} {km : Nat → Int32} {kl : Nat → Int32} {pt : Nat → Int32} {pm : Nat → Int32} {pl : Nat → Int32} {nu : Nat → Int32} {le : Nat → Int32} {ow : Nat → Int32} {fo : Nat → Int32} {run : Bool} {wc : Nat} {lc : Nat} {tr : Nat} {cl : Nat} {tm : Nat} {ms : Nat} {yl : Nat → Int32} {yc : Nat → Int32} {yt : Nat → Int32} {co : Nat} {pa : Int32} {su : Nat} {sc : Nat} {mc : Nat → Int32} {k : Nat}   (hls : l.stackTraces = false) (hk : k < n) (hn : n ≤ 40) (hrun : run = true) : vx_Met l yX4_openWord wsX4_openWord ({ frames := 6, cells := 1, slots := 6, locals := 82 }) (zPc B kr kp D (zTy cI cJ cZ) (zWT cI cJ h (n, L) (kt, km, kl) (pt, pm, pl) (nu, le, ow, fo, run, wc, lc, tr, cl, tm, ms) (yl, yc, yt, co, pa, su, sc) mc ++ R) [.ref (h 0), .int (nI k)]) (zQxi B D (zWT cI cJ h (n, L) (kt, km, kl) (pt, pm, pl) (nu, le, ow, fo, run, wc, lc, tr, cl, tm, ms) (yl, yc, yt, co, pa, su, sc) mc ++ R)) (zXC "java/lang/IllegalStateException" B D (zWT cI cJ h (n, L) (kt, km, kl) (pt, pm, pl) (nu, le, ow, fo, run, wc, lc, tr, cl, tm, ms) (yl, yc, yt, co, pa, su, sc) mc ++ R)) 1 6 (zAb B) := by
  refine vx_ofW (cc := cX4_openWord) (maxL := 2) (ret := (some .int)) (by decide) rfl ?_
  intro p e s m args below meth c s₁ B0 hml ht9 hv
  obtain ⟨rfl, hP, hD, hK, hE, hB⟩ := hv
  have hx := B0.exec
  have hb := B0.bytes
  have hr := B0.returns
  have hts := atoms_spec (ws := wsX4_openWord) B0.pre
  have hown : s.vm.findClass RX4 = some m.cls := findClass_of_methodNamed B0.named
  have hlocks := B0.notSynchronized
  have hA : ∀ q : Nat, s.heap.size ≤ q → zAb B q := fun q hq => Nat.le_trans hB hq
  have hS : va_S (zAb B) s.heap s.heap [] := va_S.rf
  have hgr : s.heap.size ≤ s.heap.size := Nat.le_refl _
  have hl := lv_entry ([.ref (h 0), .int (nI k)]) (n := 2) (Nat.le_of_ble_eq_true rfl)
  rw [lg_entry_eq]
  generalize (lg_sl ([.ref (h 0), .int (nI k)]) ++ List.replicate (2 - (lg_sl ([.ref (h 0), .int (nI k)])).length) Slot.unset).toArray = ls at hl ⊢
  have hl : lv_has ls 2 [(0, .ref (h 0)), (1, .int (nI k))] := hl
  have hinX4 : ∀ w ∈ wsX40, w ∈ wsX4_openWord := fun _ h => List.mem_cons_of_mem _ (List.mem_append_left _ (List.mem_append_left _ (List.mem_append_left _ (List.mem_append_left _ (List.mem_append_right _ h)))))
  have hP : va_P D vwCl (zWT cI cJ h (n, L) (kt, km, kl) (pt, pm, pl) (nu, le, ow, fo, run, wc, lc, tr, cl, tm, ms) (yl, yc, yt, co, pa, su, sc) mc ++ R) s.heap := hP
  have hD : va_D (zAb B) (zWT cI cJ h (n, L) (kt, km, kl) (pt, pm, pl) (nu, le, ow, fo, run, wc, lc, tr, cl, tm, ms) (yl, yc, yt, co, pa, su, sc) mc ++ R) := hD
  refine lv_aload_n hx hb dX4_openWord_0 rfl (lv_at hl 0 rfl) ?_
  refine va_get (ci := 4) (v := .ref (h 1)) (C := RX4) (T := TX4) (N := 6) hx hb hts hinX4 hown hK hP 0 rfl rfl 0 (by decide) (hts (.fieldLink RX4 12 "TypingTutor" "list" "LTypingTutor$WordList;") (List.mem_of_getElem? (i := 5) rfl)) (fun _ h9 => h9) rfl dX4_openWord_1 ?_
  refine lv_iload_n hx hb dX4_openWord_4 rfl (lv_at hl 1 rfl) ?_
  refine zci (zrV (As := [.int (nI k)]) (rest := []) ⟨hx, hb, hml, hown, hts⟩ (zV 1 hP hD hK hE hB hS rfl rfl) (c_X3_hasNumber (k := k) (by omega) (by omega)) (cwV 1 hts gX4_openWord_X3_hasNumber rfl rfl rfl hdv_X3_hasNumber ⟨Nat.le_of_ble_eq_true rfl, Nat.le_of_ble_eq_true rfl⟩) rfl rfl hl.1 rfl (lv_room (Nat.le_of_ble_eq_true rfl)) dX4_openWord_5 ⟨Nat.le_of_ble_eq_true rfl, Nat.le_of_ble_eq_true rfl⟩) hS (fun H locs hP hD hS => ?_)
  have hP : va_P D vwCl (zWT cI cJ h (n, L) (kt, km, kl) (pt, pm, pl) (nu, le, ow, fo, run, wc, lc, tr, cl, tm, ms) (yl, yc, yt, co, pa, su, sc) mc ++ R) _ := hP
  have hD : va_D (zAb B) (zWT cI cJ h (n, L) (kt, km, kl) (pt, pm, pl) (nu, le, ow, fo, run, wc, lc, tr, cl, tm, ms) (yl, yc, yt, co, pa, su, sc) mc ++ R) := hD
  refine lv_if_ne (tgt := 21) hx hb dX4_openWord_8 (by decide) (fun c_1 => ?_) (fun c_1 => ?_)
  · skip
    refine lv_aload_n hx hb dX4_openWord_21 rfl (lv_at hl 0 rfl) ?_
    refine va_get (ci := 4) (v := .ref (h 11)) (C := RX4) (T := TX4) (N := 6) hx hb hts hinX4 hown hK hP 0 rfl rfl 3 (by decide) (hts (.fieldLink RX4 31 "TypingTutor" "current" "LTypingTutor$Lesson;") (List.mem_of_getElem? (i := 6) rfl)) (fun _ h9 => h9) rfl dX4_openWord_22 ?_
    refine zci (zrV (As := []) (rest := []) ⟨hx, hb, hml, hown, hts⟩ (zV 11 hP hD hK hE hB hS rfl rfl) (c_X2_isRunning  ) (cwV 0 hts gX4_openWord_X2_isRunning rfl rfl rfl hdv_X2_isRunning ⟨Nat.le_of_ble_eq_true rfl, Nat.le_of_ble_eq_true rfl⟩) rfl rfl hl.1 rfl (lv_room (Nat.le_of_ble_eq_true rfl)) dX4_openWord_25 ⟨Nat.le_of_ble_eq_true rfl, Nat.le_of_ble_eq_true rfl⟩) hS (fun H locs hP hD hS => ?_)
    have hP : va_P D vwCl (zWT cI cJ h (n, L) (kt, km, kl) (pt, pm, pl) (nu, le, ow, fo, run, wc, lc, tr, cl, tm, ms) (yl, yc, yt, co, pa, su, sc) mc ++ R) _ := hP
    have hD : va_D (zAb B) (zWT cI cJ h (n, L) (kt, km, kl) (pt, pm, pl) (nu, le, ow, fo, run, wc, lc, tr, cl, tm, ms) (yl, yc, yt, co, pa, su, sc) mc ++ R) := hD
    refine lv_if_eq (tgt := 41) hx hb dX4_openWord_28 (by decide) (fun c_2 => ?_) (fun c_2 => ?_)
    · skip
      have c_2 : run = false := zb_0 c_2
      exact absurd (c_2.symm.trans hrun) (by decide)
    · skip
      have c_2 : run = true := zb_n c_2
      exact zthrow hx hb hls hown hE hP hD hS (hl.1.trans hml.symm) ht9 hlocks (by decide +kernel) (List.mem_of_getElem? (i := 6) rfl) (by decide +kernel) (hts (.classLink RX4 64 "java/lang/IllegalStateException") (List.mem_of_getElem? (i := 3) rfl)) (hts (.initialized "java/lang/IllegalStateException") (List.mem_of_getElem? (i := 4) rfl)) (fun w h9 => hts w (List.mem_cons_of_mem _ (List.mem_append_right _ h9))) (by decide +kernel) (by decide +kernel) dX4_openWord_31 dX4_openWord_34 dX4_openWord_35 dX4_openWord_37 dX4_openWord_40 ⟨Nat.le_of_ble_eq_true rfl, Nat.le_of_ble_eq_true rfl, Nat.le_of_ble_eq_true rfl, Nat.le_of_ble_eq_true rfl⟩
  · skip
    exfalso; first | omega | (revert c_1; decide) | (exact absurd rfl c_1) | simp_all

set_option maxHeartbeats 1000000 in
set_option maxRecDepth 100000 in
theorem c_X4_key_0 {l : Launch} {B kr kp : Nat} {D : va_G} {cI cJ cZ : ClassId} {h : Nat → Nat} {R : va_W} {n : Nat} {L : Nat → Int64} {kt : Nat → Int32} {km : Nat → Int32} {kl : Nat → Int32} {pt : Nat → Int32} {pm : Nat → Int32} {pl : Nat → Int32} {nu : Nat → Int32} {le : Nat → Int32} {ow : Nat → Int32} {fo : Nat → Int32} {run : Bool} {wc : Nat} {lc : Nat} {tr : Nat} {cl : Nat} {tm : Nat} {ms : Nat} {yl : Nat → Int32} {yc : Nat → Int32} {yt : Nat → Int32} {co : Nat} {pa : Int32} {su : Nat} {sc : Nat} {mc : Nat → Int32} {k : Nat}   (hk : k < 26) : Met l yX4_key wsX4_key ({ frames := 2, cells := 0, slots := 0, locals := 43 }) (zPc B kr kp D (zTy cI cJ cZ) (zWT cI cJ h (n, L) (kt, km, kl) (pt, pm, pl) (nu, le, ow, fo, run, wc, lc, tr, cl, tm, ms) (yl, yc, yt, co, pa, su, sc) mc ++ R) [.ref (h 0), .int (nI k), .int 0]) (zQi B D (zWT cI cJ h (n, L) (kt, km, kl) (pt, pm, pl) (nu, le, ow, fo, run, wc, lc, tr, cl, tm, ms) (yl, yc, yt, co, pa, su, sc) mc ++ R) (kt k)) 0 0 (zAb B) := by
  refine Met.ofW (cc := cX4_key) (maxL := 3) (ret := (some .int)) (by decide) rfl ?_
  intro p e s m args below meth c s₁ B0 hml hv
  obtain ⟨rfl, hP, hD, hK, hE, hB⟩ := hv
  have hx := B0.exec
  have hb := B0.bytes
  have hr := B0.returns
  have hts := atoms_spec (ws := wsX4_key) B0.pre
  have hown : s.vm.findClass RX4 = some m.cls := findClass_of_methodNamed B0.named
  have hlocks := B0.notSynchronized
  have hA : ∀ q : Nat, s.heap.size ≤ q → zAb B q := fun q hq => Nat.le_trans hB hq
  have hS : va_S (zAb B) s.heap s.heap [] := va_S.rf
  have hgr : s.heap.size ≤ s.heap.size := Nat.le_refl _
  have hl := lv_entry ([.ref (h 0), .int (nI k), .int 0]) (n := 3) (Nat.le_of_ble_eq_true rfl)
  rw [lg_entry_eq]
  generalize (lg_sl ([.ref (h 0), .int (nI k), .int 0]) ++ List.replicate (3 - (lg_sl ([.ref (h 0), .int (nI k), .int 0])).length) Slot.unset).toArray = ls at hl ⊢
  have hl : lv_has ls 3 [(0, .ref (h 0)), (1, .int (nI k)), (2, .int 0)] := hl
  have hinX4 : ∀ w ∈ wsX40, w ∈ wsX4_key := fun _ h => List.mem_cons_of_mem _ (List.mem_append_left _ (List.mem_append_left _ (List.mem_append_right _ h)))
  have hP : va_P D vwCl (zWT cI cJ h (n, L) (kt, km, kl) (pt, pm, pl) (nu, le, ow, fo, run, wc, lc, tr, cl, tm, ms) (yl, yc, yt, co, pa, su, sc) mc ++ R) s.heap := hP
  have hD : va_D (zAb B) (zWT cI cJ h (n, L) (kt, km, kl) (pt, pm, pl) (nu, le, ow, fo, run, wc, lc, tr, cl, tm, ms) (yl, yc, yt, co, pa, su, sc) mc ++ R) := hD
  refine lv_iload_n hx hb dX4_key_0 rfl (lv_at hl 1 rfl) ?_
  refine zci (zrS (As := [.int (nI k)]) (rest := []) ⟨hx, hb, hml, hown, hts⟩ (zS hP hD hK hE hB hS) (c_X4_isKey  ) (va_cwS 1 hts gX4_key_X4_isKey rfl rfl rfl hds_X4_isKey ⟨Nat.le_of_ble_eq_true rfl, Nat.le_of_ble_eq_true rfl⟩) rfl rfl hl.1 rfl (lv_room (Nat.le_of_ble_eq_true rfl)) dX4_key_1 ⟨Nat.le_of_ble_eq_true rfl, Nat.le_of_ble_eq_true rfl⟩) hS (fun H locs hP hD hS => ?_)
  have hP : va_P D vwCl (zWT cI cJ h (n, L) (kt, km, kl) (pt, pm, pl) (nu, le, ow, fo, run, wc, lc, tr, cl, tm, ms) (yl, yc, yt, co, pa, su, sc) mc ++ R) _ := hP
  have hD : va_D (zAb B) (zWT cI cJ h (n, L) (kt, km, kl) (pt, pm, pl) (nu, le, ow, fo, run, wc, lc, tr, cl, tm, ms) (yl, yc, yt, co, pa, su, sc) mc ++ R) := hD
  refine lv_if_eq (tgt := 16) hx hb dX4_key_4 (by decide) (fun c_1 => ?_) (fun c_1 => ?_)
  · skip
    have c_1 := zq_0 c_1
    exact absurd ⟨nI_pos (by omega), nI_ge hk (by decide)⟩ c_1
  · skip
    have c_1 := zq_n c_1
    refine lv_iload_n hx hb dX4_key_7 rfl (lv_at hl 2 rfl) ?_
    refine lv_if_lt (tgt := 16) hx hb dX4_key_8 (by decide) (fun c_2 => ?_) (fun c_2 => ?_)
    · skip
      exfalso; first | omega | (revert c_2; decide) | (exact absurd rfl c_2) | simp_all
    · skip
      refine lv_iload_n hx hb dX4_key_11 rfl (lv_at hl 2 rfl) ?_
      refine lv_iconst (v := 2) hx hb dX4_key_12 (by decide) ?_
      refine lv_icmp_le (tgt := 26) hx hb dX4_key_13 (by decide) (fun c_3 => ?_) (fun c_3 => ?_)
      · skip
        refine lv_aload_n hx hb dX4_key_26 rfl (lv_at hl 0 rfl) ?_
        refine va_get (ci := 4) (v := .ref (h 3)) (C := RX4) (T := TX4) (N := 6) hx hb hts hinX4 hown hK hP 0 rfl rfl 1 (by decide) (hts (.fieldLink RX4 21 "TypingTutor" "keys" "LTypingTutor$Knowledge;") (List.mem_of_getElem? (i := 3) rfl)) (fun _ h9 => h9) rfl dX4_key_27 ?_
        refine lv_iload_n hx hb dX4_key_30 rfl (lv_at hl 1 rfl) ?_
        refine lv_iload_n hx hb dX4_key_31 rfl (lv_at hl 2 rfl) ?_
        refine zci (zrV (As := [.int (nI k), .int 0]) (rest := []) ⟨hx, hb, hml, hown, hts⟩ (zV 3 hP hD hK hE hB hS rfl rfl) (c_X1_tell_k0 (k := k) (by omega)) (cwV 2 hts gX4_key_X1_tell rfl rfl rfl hdv_X1_tell ⟨Nat.le_of_ble_eq_true rfl, Nat.le_of_ble_eq_true rfl⟩) rfl rfl hl.1 rfl (lv_room (Nat.le_of_ble_eq_true rfl)) dX4_key_32 ⟨Nat.le_of_ble_eq_true rfl, Nat.le_of_ble_eq_true rfl⟩) hS (fun H locs hP hD hS => ?_)
        have hP : va_P D vwCl (zWT cI cJ h (n, L) (kt, km, kl) (pt, pm, pl) (nu, le, ow, fo, run, wc, lc, tr, cl, tm, ms) (yl, yc, yt, co, pa, su, sc) mc ++ R) _ := hP
        have hD : va_D (zAb B) (zWT cI cJ h (n, L) (kt, km, kl) (pt, pm, pl) (nu, le, ow, fo, run, wc, lc, tr, cl, tm, ms) (yl, yc, yt, co, pa, su, sc) mc ++ R) := hD
        exact W.iret (v := (kt k)) hx hb hr (fun t ht hW => ⟨⟨_, (), rfl, rfl, by rw [ht]; exact hP, hD⟩, hS.F ht⟩) hS.2.2 dX4_key_35
      · skip
        exfalso; first | omega | (revert c_3; decide) | (exact absurd rfl c_3) | simp_all

set_option maxHeartbeats 1000000 in
set_option maxRecDepth 100000 in
theorem c_X4_key_1 {l : Launch} {B kr kp : Nat} {D : va_G} {cI cJ cZ : ClassId} {h : Nat → Nat} {R : va_W} {n : Nat} {L : Nat → Int64} {kt : Nat → Int32} {km : Nat → Int32} {kl : Nat → Int32} {pt : Nat → Int32} {pm : Nat → Int32} {pl : Nat → Int32} {nu : Nat → Int32} {le : Nat → Int32} {ow : Nat → Int32} {fo : Nat → Int32} {run : Bool} {wc : Nat} {lc : Nat} {tr : Nat} {cl : Nat} {tm : Nat} {ms : Nat} {yl : Nat → Int32} {yc : Nat → Int32} {yt : Nat → Int32} {co : Nat} {pa : Int32} {su : Nat} {sc : Nat} {mc : Nat → Int32} {k : Nat}   (hk : k < 26) : Met l yX4_key wsX4_key ({ frames := 2, cells := 0, slots := 0, locals := 43 }) (zPc B kr kp D (zTy cI cJ cZ) (zWT cI cJ h (n, L) (kt, km, kl) (pt, pm, pl) (nu, le, ow, fo, run, wc, lc, tr, cl, tm, ms) (yl, yc, yt, co, pa, su, sc) mc ++ R) [.ref (h 0), .int (nI k), .int 1]) (zQi B D (zWT cI cJ h (n, L) (kt, km, kl) (pt, pm, pl) (nu, le, ow, fo, run, wc, lc, tr, cl, tm, ms) (yl, yc, yt, co, pa, su, sc) mc ++ R) (km k)) 0 0 (zAb B) := by
  refine Met.ofW (cc := cX4_key) (maxL := 3) (ret := (some .int)) (by decide) rfl ?_
  intro p e s m args below meth c s₁ B0 hml hv
  obtain ⟨rfl, hP, hD, hK, hE, hB⟩ := hv
  have hx := B0.exec
  have hb := B0.bytes
  have hr := B0.returns
  have hts := atoms_spec (ws := wsX4_key) B0.pre
  have hown : s.vm.findClass RX4 = some m.cls := findClass_of_methodNamed B0.named
  have hlocks := B0.notSynchronized
  have hA : ∀ q : Nat, s.heap.size ≤ q → zAb B q := fun q hq => Nat.le_trans hB hq
  have hS : va_S (zAb B) s.heap s.heap [] := va_S.rf
  have hgr : s.heap.size ≤ s.heap.size := Nat.le_refl _
  have hl := lv_entry ([.ref (h 0), .int (nI k), .int 1]) (n := 3) (Nat.le_of_ble_eq_true rfl)
  rw [lg_entry_eq]
  generalize (lg_sl ([.ref (h 0), .int (nI k), .int 1]) ++ List.replicate (3 - (lg_sl ([.ref (h 0), .int (nI k), .int 1])).length) Slot.unset).toArray = ls at hl ⊢
  have hl : lv_has ls 3 [(0, .ref (h 0)), (1, .int (nI k)), (2, .int 1)] := hl
  have hinX4 : ∀ w ∈ wsX40, w ∈ wsX4_key := fun _ h => List.mem_cons_of_mem _ (List.mem_append_left _ (List.mem_append_left _ (List.mem_append_right _ h)))
  have hP : va_P D vwCl (zWT cI cJ h (n, L) (kt, km, kl) (pt, pm, pl) (nu, le, ow, fo, run, wc, lc, tr, cl, tm, ms) (yl, yc, yt, co, pa, su, sc) mc ++ R) s.heap := hP
  have hD : va_D (zAb B) (zWT cI cJ h (n, L) (kt, km, kl) (pt, pm, pl) (nu, le, ow, fo, run, wc, lc, tr, cl, tm, ms) (yl, yc, yt, co, pa, su, sc) mc ++ R) := hD
  refine lv_iload_n hx hb dX4_key_0 rfl (lv_at hl 1 rfl) ?_
  refine zci (zrS (As := [.int (nI k)]) (rest := []) ⟨hx, hb, hml, hown, hts⟩ (zS hP hD hK hE hB hS) (c_X4_isKey  ) (va_cwS 1 hts gX4_key_X4_isKey rfl rfl rfl hds_X4_isKey ⟨Nat.le_of_ble_eq_true rfl, Nat.le_of_ble_eq_true rfl⟩) rfl rfl hl.1 rfl (lv_room (Nat.le_of_ble_eq_true rfl)) dX4_key_1 ⟨Nat.le_of_ble_eq_true rfl, Nat.le_of_ble_eq_true rfl⟩) hS (fun H locs hP hD hS => ?_)
  have hP : va_P D vwCl (zWT cI cJ h (n, L) (kt, km, kl) (pt, pm, pl) (nu, le, ow, fo, run, wc, lc, tr, cl, tm, ms) (yl, yc, yt, co, pa, su, sc) mc ++ R) _ := hP
  have hD : va_D (zAb B) (zWT cI cJ h (n, L) (kt, km, kl) (pt, pm, pl) (nu, le, ow, fo, run, wc, lc, tr, cl, tm, ms) (yl, yc, yt, co, pa, su, sc) mc ++ R) := hD
  refine lv_if_eq (tgt := 16) hx hb dX4_key_4 (by decide) (fun c_1 => ?_) (fun c_1 => ?_)
  · skip
    have c_1 := zq_0 c_1
    exact absurd ⟨nI_pos (by omega), nI_ge hk (by decide)⟩ c_1
  · skip
    have c_1 := zq_n c_1
    refine lv_iload_n hx hb dX4_key_7 rfl (lv_at hl 2 rfl) ?_
    refine lv_if_lt (tgt := 16) hx hb dX4_key_8 (by decide) (fun c_2 => ?_) (fun c_2 => ?_)
    · skip
      exfalso; first | omega | (revert c_2; decide) | (exact absurd rfl c_2) | simp_all
    · skip
      refine lv_iload_n hx hb dX4_key_11 rfl (lv_at hl 2 rfl) ?_
      refine lv_iconst (v := 2) hx hb dX4_key_12 (by decide) ?_
      refine lv_icmp_le (tgt := 26) hx hb dX4_key_13 (by decide) (fun c_3 => ?_) (fun c_3 => ?_)
      · skip
        refine lv_aload_n hx hb dX4_key_26 rfl (lv_at hl 0 rfl) ?_
        refine va_get (ci := 4) (v := .ref (h 3)) (C := RX4) (T := TX4) (N := 6) hx hb hts hinX4 hown hK hP 0 rfl rfl 1 (by decide) (hts (.fieldLink RX4 21 "TypingTutor" "keys" "LTypingTutor$Knowledge;") (List.mem_of_getElem? (i := 3) rfl)) (fun _ h9 => h9) rfl dX4_key_27 ?_
        refine lv_iload_n hx hb dX4_key_30 rfl (lv_at hl 1 rfl) ?_
        refine lv_iload_n hx hb dX4_key_31 rfl (lv_at hl 2 rfl) ?_
        refine zci (zrV (As := [.int (nI k), .int 1]) (rest := []) ⟨hx, hb, hml, hown, hts⟩ (zV 3 hP hD hK hE hB hS rfl rfl) (c_X1_tell_k1 (k := k) (by omega)) (cwV 2 hts gX4_key_X1_tell rfl rfl rfl hdv_X1_tell ⟨Nat.le_of_ble_eq_true rfl, Nat.le_of_ble_eq_true rfl⟩) rfl rfl hl.1 rfl (lv_room (Nat.le_of_ble_eq_true rfl)) dX4_key_32 ⟨Nat.le_of_ble_eq_true rfl, Nat.le_of_ble_eq_true rfl⟩) hS (fun H locs hP hD hS => ?_)
        have hP : va_P D vwCl (zWT cI cJ h (n, L) (kt, km, kl) (pt, pm, pl) (nu, le, ow, fo, run, wc, lc, tr, cl, tm, ms) (yl, yc, yt, co, pa, su, sc) mc ++ R) _ := hP
        have hD : va_D (zAb B) (zWT cI cJ h (n, L) (kt, km, kl) (pt, pm, pl) (nu, le, ow, fo, run, wc, lc, tr, cl, tm, ms) (yl, yc, yt, co, pa, su, sc) mc ++ R) := hD
        exact W.iret (v := (km k)) hx hb hr (fun t ht hW => ⟨⟨_, (), rfl, rfl, by rw [ht]; exact hP, hD⟩, hS.F ht⟩) hS.2.2 dX4_key_35
      · skip
        exfalso; first | omega | (revert c_3; decide) | (exact absurd rfl c_3) | simp_all

set_option maxHeartbeats 1000000 in
set_option maxRecDepth 100000 in
theorem c_X4_key_2 {l : Launch} {B kr kp : Nat} {D : va_G} {cI cJ cZ : ClassId} {h : Nat → Nat} {R : va_W} {n : Nat} {L : Nat → Int64} {kt : Nat → Int32} {km : Nat → Int32} {kl : Nat → Int32} {pt : Nat → Int32} {pm : Nat → Int32} {pl : Nat → Int32} {nu : Nat → Int32} {le : Nat → Int32} {ow : Nat → Int32} {fo : Nat → Int32} {run : Bool} {wc : Nat} {lc : Nat} {tr : Nat} {cl : Nat} {tm : Nat} {ms : Nat} {yl : Nat → Int32} {yc : Nat → Int32} {yt : Nat → Int32} {co : Nat} {pa : Int32} {su : Nat} {sc : Nat} {mc : Nat → Int32} {k : Nat}   (hk : k < 26) : Met l yX4_key wsX4_key ({ frames := 2, cells := 0, slots := 0, locals := 43 }) (zPc B kr kp D (zTy cI cJ cZ) (zWT cI cJ h (n, L) (kt, km, kl) (pt, pm, pl) (nu, le, ow, fo, run, wc, lc, tr, cl, tm, ms) (yl, yc, yt, co, pa, su, sc) mc ++ R) [.ref (h 0), .int (nI k), .int 2]) (zQi B D (zWT cI cJ h (n, L) (kt, km, kl) (pt, pm, pl) (nu, le, ow, fo, run, wc, lc, tr, cl, tm, ms) (yl, yc, yt, co, pa, su, sc) mc ++ R) (kl k)) 0 0 (zAb B) := by
  refine Met.ofW (cc := cX4_key) (maxL := 3) (ret := (some .int)) (by decide) rfl ?_
  intro p e s m args below meth c s₁ B0 hml hv
  obtain ⟨rfl, hP, hD, hK, hE, hB⟩ := hv
  have hx := B0.exec
  have hb := B0.bytes
  have hr := B0.returns
  have hts := atoms_spec (ws := wsX4_key) B0.pre
  have hown : s.vm.findClass RX4 = some m.cls := findClass_of_methodNamed B0.named
  have hlocks := B0.notSynchronized
  have hA : ∀ q : Nat, s.heap.size ≤ q → zAb B q := fun q hq => Nat.le_trans hB hq
  have hS : va_S (zAb B) s.heap s.heap [] := va_S.rf
  have hgr : s.heap.size ≤ s.heap.size := Nat.le_refl _
  have hl := lv_entry ([.ref (h 0), .int (nI k), .int 2]) (n := 3) (Nat.le_of_ble_eq_true rfl)
  rw [lg_entry_eq]
  generalize (lg_sl ([.ref (h 0), .int (nI k), .int 2]) ++ List.replicate (3 - (lg_sl ([.ref (h 0), .int (nI k), .int 2])).length) Slot.unset).toArray = ls at hl ⊢
  have hl : lv_has ls 3 [(0, .ref (h 0)), (1, .int (nI k)), (2, .int 2)] := hl
  have hinX4 : ∀ w ∈ wsX40, w ∈ wsX4_key := fun _ h => List.mem_cons_of_mem _ (List.mem_append_left _ (List.mem_append_left _ (List.mem_append_right _ h)))
  have hP : va_P D vwCl (zWT cI cJ h (n, L) (kt, km, kl) (pt, pm, pl) (nu, le, ow, fo, run, wc, lc, tr, cl, tm, ms) (yl, yc, yt, co, pa, su, sc) mc ++ R) s.heap := hP
  have hD : va_D (zAb B) (zWT cI cJ h (n, L) (kt, km, kl) (pt, pm, pl) (nu, le, ow, fo, run, wc, lc, tr, cl, tm, ms) (yl, yc, yt, co, pa, su, sc) mc ++ R) := hD
  refine lv_iload_n hx hb dX4_key_0 rfl (lv_at hl 1 rfl) ?_
  refine zci (zrS (As := [.int (nI k)]) (rest := []) ⟨hx, hb, hml, hown, hts⟩ (zS hP hD hK hE hB hS) (c_X4_isKey  ) (va_cwS 1 hts gX4_key_X4_isKey rfl rfl rfl hds_X4_isKey ⟨Nat.le_of_ble_eq_true rfl, Nat.le_of_ble_eq_true rfl⟩) rfl rfl hl.1 rfl (lv_room (Nat.le_of_ble_eq_true rfl)) dX4_key_1 ⟨Nat.le_of_ble_eq_true rfl, Nat.le_of_ble_eq_true rfl⟩) hS (fun H locs hP hD hS => ?_)
  have hP : va_P D vwCl (zWT cI cJ h (n, L) (kt, km, kl) (pt, pm, pl) (nu, le, ow, fo, run, wc, lc, tr, cl, tm, ms) (yl, yc, yt, co, pa, su, sc) mc ++ R) _ := hP
  have hD : va_D (zAb B) (zWT cI cJ h (n, L) (kt, km, kl) (pt, pm, pl) (nu, le, ow, fo, run, wc, lc, tr, cl, tm, ms) (yl, yc, yt, co, pa, su, sc) mc ++ R) := hD
  refine lv_if_eq (tgt := 16) hx hb dX4_key_4 (by decide) (fun c_1 => ?_) (fun c_1 => ?_)
  · skip
    have c_1 := zq_0 c_1
    exact absurd ⟨nI_pos (by omega), nI_ge hk (by decide)⟩ c_1
  · skip
    have c_1 := zq_n c_1
    refine lv_iload_n hx hb dX4_key_7 rfl (lv_at hl 2 rfl) ?_
    refine lv_if_lt (tgt := 16) hx hb dX4_key_8 (by decide) (fun c_2 => ?_) (fun c_2 => ?_)
    · skip
      exfalso; first | omega | (revert c_2; decide) | (exact absurd rfl c_2) | simp_all
    · skip
      refine lv_iload_n hx hb dX4_key_11 rfl (lv_at hl 2 rfl) ?_
      refine lv_iconst (v := 2) hx hb dX4_key_12 (by decide) ?_
      refine lv_icmp_le (tgt := 26) hx hb dX4_key_13 (by decide) (fun c_3 => ?_) (fun c_3 => ?_)
      · skip
        refine lv_aload_n hx hb dX4_key_26 rfl (lv_at hl 0 rfl) ?_
        refine va_get (ci := 4) (v := .ref (h 3)) (C := RX4) (T := TX4) (N := 6) hx hb hts hinX4 hown hK hP 0 rfl rfl 1 (by decide) (hts (.fieldLink RX4 21 "TypingTutor" "keys" "LTypingTutor$Knowledge;") (List.mem_of_getElem? (i := 3) rfl)) (fun _ h9 => h9) rfl dX4_key_27 ?_
        refine lv_iload_n hx hb dX4_key_30 rfl (lv_at hl 1 rfl) ?_
        refine lv_iload_n hx hb dX4_key_31 rfl (lv_at hl 2 rfl) ?_
        refine zci (zrV (As := [.int (nI k), .int 2]) (rest := []) ⟨hx, hb, hml, hown, hts⟩ (zV 3 hP hD hK hE hB hS rfl rfl) (c_X1_tell_k2 (k := k) (by omega)) (cwV 2 hts gX4_key_X1_tell rfl rfl rfl hdv_X1_tell ⟨Nat.le_of_ble_eq_true rfl, Nat.le_of_ble_eq_true rfl⟩) rfl rfl hl.1 rfl (lv_room (Nat.le_of_ble_eq_true rfl)) dX4_key_32 ⟨Nat.le_of_ble_eq_true rfl, Nat.le_of_ble_eq_true rfl⟩) hS (fun H locs hP hD hS => ?_)
        have hP : va_P D vwCl (zWT cI cJ h (n, L) (kt, km, kl) (pt, pm, pl) (nu, le, ow, fo, run, wc, lc, tr, cl, tm, ms) (yl, yc, yt, co, pa, su, sc) mc ++ R) _ := hP
        have hD : va_D (zAb B) (zWT cI cJ h (n, L) (kt, km, kl) (pt, pm, pl) (nu, le, ow, fo, run, wc, lc, tr, cl, tm, ms) (yl, yc, yt, co, pa, su, sc) mc ++ R) := hD
        exact W.iret (v := (kl k)) hx hb hr (fun t ht hW => ⟨⟨_, (), rfl, rfl, by rw [ht]; exact hP, hD⟩, hS.F ht⟩) hS.2.2 dX4_key_35
      · skip
        exfalso; first | omega | (revert c_3; decide) | (exact absurd rfl c_3) | simp_all

set_option maxHeartbeats 1000000 in
set_option maxRecDepth 100000 in
theorem c_X4_key_x {l : Launch} {B kr kp : Nat} {D : va_G} {cI cJ cZ : ClassId} {h : Nat → Nat} {R : va_W} {n : Nat} {L : Nat → Int64} {kt : Nat → Int32} {km : Nat → Int32} {kl : Nat → Int32} {pt : Nat → Int32} {pm : Nat → Int32} {pl : Nat → Int32} {nu : Nat → Int32} {le : Nat → Int32} {ow : Nat → Int32} {fo : Nat → Int32} {run : Bool} {wc : Nat} {lc : Nat} {tr : Nat} {cl : Nat} {tm : Nat} {ms : Nat} {yl : Nat → Int32} {yc : Nat → Int32} {yt : Nat → Int32} {co : Nat} {pa : Int32} {su : Nat} {sc : Nat} {mc : Nat → Int32} {a : Int32} {i : Int32}   (hls : l.stackTraces = false) (h1 : ¬ ((¬ a < 0 ∧ ¬ 26 ≤ a) ∧ ¬ i < 0 ∧ i ≤ 2)) : vx_Met l yX4_key wsX4_key ({ frames := 6, cells := 1, slots := 6, locals := 82 }) (zPc B kr kp D (zTy cI cJ cZ) (zWT cI cJ h (n, L) (kt, km, kl) (pt, pm, pl) (nu, le, ow, fo, run, wc, lc, tr, cl, tm, ms) (yl, yc, yt, co, pa, su, sc) mc ++ R) [.ref (h 0), .int a, .int i]) (zQxi B D (zWT cI cJ h (n, L) (kt, km, kl) (pt, pm, pl) (nu, le, ow, fo, run, wc, lc, tr, cl, tm, ms) (yl, yc, yt, co, pa, su, sc) mc ++ R)) (zXC "java/lang/IndexOutOfBoundsException" B D (zWT cI cJ h (n, L) (kt, km, kl) (pt, pm, pl) (nu, le, ow, fo, run, wc, lc, tr, cl, tm, ms) (yl, yc, yt, co, pa, su, sc) mc ++ R)) 1 6 (zAb B) := by
  refine vx_ofW (cc := cX4_key) (maxL := 3) (ret := (some .int)) (by decide) rfl ?_
  intro p e s m args below meth c s₁ B0 hml ht9 hv
  obtain ⟨rfl, hP, hD, hK, hE, hB⟩ := hv
  have hx := B0.exec
  have hb := B0.bytes
  have hr := B0.returns
  have hts := atoms_spec (ws := wsX4_key) B0.pre
  have hown : s.vm.findClass RX4 = some m.cls := findClass_of_methodNamed B0.named
  have hlocks := B0.notSynchronized
  have hA : ∀ q : Nat, s.heap.size ≤ q → zAb B q := fun q hq => Nat.le_trans hB hq
  have hS : va_S (zAb B) s.heap s.heap [] := va_S.rf
  have hgr : s.heap.size ≤ s.heap.size := Nat.le_refl _
  have hl := lv_entry ([.ref (h 0), .int a, .int i]) (n := 3) (Nat.le_of_ble_eq_true rfl)
  rw [lg_entry_eq]
  generalize (lg_sl ([.ref (h 0), .int a, .int i]) ++ List.replicate (3 - (lg_sl ([.ref (h 0), .int a, .int i])).length) Slot.unset).toArray = ls at hl ⊢
  have hl : lv_has ls 3 [(0, .ref (h 0)), (1, .int a), (2, .int i)] := hl
  have hP : va_P D vwCl (zWT cI cJ h (n, L) (kt, km, kl) (pt, pm, pl) (nu, le, ow, fo, run, wc, lc, tr, cl, tm, ms) (yl, yc, yt, co, pa, su, sc) mc ++ R) s.heap := hP
  have hD : va_D (zAb B) (zWT cI cJ h (n, L) (kt, km, kl) (pt, pm, pl) (nu, le, ow, fo, run, wc, lc, tr, cl, tm, ms) (yl, yc, yt, co, pa, su, sc) mc ++ R) := hD
  refine lv_iload_n hx hb dX4_key_0 rfl (lv_at hl 1 rfl) ?_
  refine zci (zrS (As := [.int a]) (rest := []) ⟨hx, hb, hml, hown, hts⟩ (zS hP hD hK hE hB hS) (c_X4_isKey  ) (va_cwS 1 hts gX4_key_X4_isKey rfl rfl rfl hds_X4_isKey ⟨Nat.le_of_ble_eq_true rfl, Nat.le_of_ble_eq_true rfl⟩) rfl rfl hl.1 rfl (lv_room (Nat.le_of_ble_eq_true rfl)) dX4_key_1 ⟨Nat.le_of_ble_eq_true rfl, Nat.le_of_ble_eq_true rfl⟩) hS (fun H locs hP hD hS => ?_)
  have hP : va_P D vwCl (zWT cI cJ h (n, L) (kt, km, kl) (pt, pm, pl) (nu, le, ow, fo, run, wc, lc, tr, cl, tm, ms) (yl, yc, yt, co, pa, su, sc) mc ++ R) _ := hP
  have hD : va_D (zAb B) (zWT cI cJ h (n, L) (kt, km, kl) (pt, pm, pl) (nu, le, ow, fo, run, wc, lc, tr, cl, tm, ms) (yl, yc, yt, co, pa, su, sc) mc ++ R) := hD
  refine lv_if_eq (tgt := 16) hx hb dX4_key_4 (by decide) (fun c_1 => ?_) (fun c_1 => ?_)
  · skip
    have c_1 := zq_0 c_1
    exact zthrow hx hb hls hown hE hP hD hS (hl.1.trans hml.symm) ht9 hlocks (by decide +kernel) (List.mem_of_getElem? (i := 10) rfl) (by decide +kernel) (hts (.classLink RX4 81 "java/lang/IndexOutOfBoundsException") (List.mem_of_getElem? (i := 1) rfl)) (hts (.initialized "java/lang/IndexOutOfBoundsException") (List.mem_of_getElem? (i := 2) rfl)) (fun w h9 => hts w (List.mem_cons_of_mem _ (List.mem_append_right _ h9))) (by decide +kernel) (by decide +kernel) dX4_key_16 dX4_key_19 dX4_key_20 dX4_key_22 dX4_key_25 ⟨Nat.le_of_ble_eq_true rfl, Nat.le_of_ble_eq_true rfl, Nat.le_of_ble_eq_true rfl, Nat.le_of_ble_eq_true rfl⟩
  · skip
    have c_1 := zq_n c_1
    refine lv_iload_n hx hb dX4_key_7 rfl (lv_at hl 2 rfl) ?_
    refine lv_if_lt (tgt := 16) hx hb dX4_key_8 (by decide) (fun c_2 => ?_) (fun c_2 => ?_)
    · skip
      exact zthrow hx hb hls hown hE hP hD hS (hl.1.trans hml.symm) ht9 hlocks (by decide +kernel) (List.mem_of_getElem? (i := 10) rfl) (by decide +kernel) (hts (.classLink RX4 81 "java/lang/IndexOutOfBoundsException") (List.mem_of_getElem? (i := 1) rfl)) (hts (.initialized "java/lang/IndexOutOfBoundsException") (List.mem_of_getElem? (i := 2) rfl)) (fun w h9 => hts w (List.mem_cons_of_mem _ (List.mem_append_right _ h9))) (by decide +kernel) (by decide +kernel) dX4_key_16 dX4_key_19 dX4_key_20 dX4_key_22 dX4_key_25 ⟨Nat.le_of_ble_eq_true rfl, Nat.le_of_ble_eq_true rfl, Nat.le_of_ble_eq_true rfl, Nat.le_of_ble_eq_true rfl⟩
    · skip
      refine lv_iload_n hx hb dX4_key_11 rfl (lv_at hl 2 rfl) ?_
      refine lv_iconst (v := 2) hx hb dX4_key_12 (by decide) ?_
      refine lv_icmp_le (tgt := 26) hx hb dX4_key_13 (by decide) (fun c_3 => ?_) (fun c_3 => ?_)
      · skip
        exact absurd ⟨c_1, c_2, c_3⟩ h1
      · skip
        exact zthrow hx hb hls hown hE hP hD hS (hl.1.trans hml.symm) ht9 hlocks (by decide +kernel) (List.mem_of_getElem? (i := 10) rfl) (by decide +kernel) (hts (.classLink RX4 81 "java/lang/IndexOutOfBoundsException") (List.mem_of_getElem? (i := 1) rfl)) (hts (.initialized "java/lang/IndexOutOfBoundsException") (List.mem_of_getElem? (i := 2) rfl)) (fun w h9 => hts w (List.mem_cons_of_mem _ (List.mem_append_right _ h9))) (by decide +kernel) (by decide +kernel) dX4_key_16 dX4_key_19 dX4_key_20 dX4_key_22 dX4_key_25 ⟨Nat.le_of_ble_eq_true rfl, Nat.le_of_ble_eq_true rfl, Nat.le_of_ble_eq_true rfl, Nat.le_of_ble_eq_true rfl⟩

set_option maxHeartbeats 1000000 in
set_option maxRecDepth 100000 in
theorem c_X4_pair_0 {l : Launch} {B kr kp : Nat} {D : va_G} {cI cJ cZ : ClassId} {h : Nat → Nat} {R : va_W} {n : Nat} {L : Nat → Int64} {kt : Nat → Int32} {km : Nat → Int32} {kl : Nat → Int32} {pt : Nat → Int32} {pm : Nat → Int32} {pl : Nat → Int32} {nu : Nat → Int32} {le : Nat → Int32} {ow : Nat → Int32} {fo : Nat → Int32} {run : Bool} {wc : Nat} {lc : Nat} {tr : Nat} {cl : Nat} {tm : Nat} {ms : Nat} {yl : Nat → Int32} {yc : Nat → Int32} {yt : Nat → Int32} {co : Nat} {pa : Int32} {su : Nat} {sc : Nat} {mc : Nat → Int32} {a : Nat} {b : Nat}   (h1 : a < 26) (h2 : b < 26) : Met l yX4_pair wsX4_pair ({ frames := 2, cells := 0, slots := 0, locals := 43 }) (zPc B kr kp D (zTy cI cJ cZ) (zWT cI cJ h (n, L) (kt, km, kl) (pt, pm, pl) (nu, le, ow, fo, run, wc, lc, tr, cl, tm, ms) (yl, yc, yt, co, pa, su, sc) mc ++ R) [.ref (h 0), .int (nI a), .int (nI b), .int 0]) (zQi B D (zWT cI cJ h (n, L) (kt, km, kl) (pt, pm, pl) (nu, le, ow, fo, run, wc, lc, tr, cl, tm, ms) (yl, yc, yt, co, pa, su, sc) mc ++ R) (pt (26 * a + b))) 0 0 (zAb B) := by
  refine Met.ofW (cc := cX4_pair) (maxL := 5) (ret := (some .int)) (by decide) rfl ?_
  intro p e s m args below meth c s₁ B0 hml hv
  obtain ⟨rfl, hP, hD, hK, hE, hB⟩ := hv
  have hx := B0.exec
  have hb := B0.bytes
  have hr := B0.returns
  have hts := atoms_spec (ws := wsX4_pair) B0.pre
  have hown : s.vm.findClass RX4 = some m.cls := findClass_of_methodNamed B0.named
  have hlocks := B0.notSynchronized
  have hA : ∀ q : Nat, s.heap.size ≤ q → zAb B q := fun q hq => Nat.le_trans hB hq
  have hS : va_S (zAb B) s.heap s.heap [] := va_S.rf
  have hgr : s.heap.size ≤ s.heap.size := Nat.le_refl _
  have hl := lv_entry ([.ref (h 0), .int (nI a), .int (nI b), .int 0]) (n := 5) (Nat.le_of_ble_eq_true rfl)
  rw [lg_entry_eq]
  generalize (lg_sl ([.ref (h 0), .int (nI a), .int (nI b), .int 0]) ++ List.replicate (5 - (lg_sl ([.ref (h 0), .int (nI a), .int (nI b), .int 0])).length) Slot.unset).toArray = ls at hl ⊢
  have hl : lv_has ls 5 [(0, .ref (h 0)), (1, .int (nI a)), (2, .int (nI b)), (3, .int 0)] := hl
  have hinX4 : ∀ w ∈ wsX40, w ∈ wsX4_pair := fun _ h => List.mem_cons_of_mem _ (List.mem_append_left _ (List.mem_append_left _ (List.mem_append_right _ h)))
  have hP : va_P D vwCl (zWT cI cJ h (n, L) (kt, km, kl) (pt, pm, pl) (nu, le, ow, fo, run, wc, lc, tr, cl, tm, ms) (yl, yc, yt, co, pa, su, sc) mc ++ R) s.heap := hP
  have hD : va_D (zAb B) (zWT cI cJ h (n, L) (kt, km, kl) (pt, pm, pl) (nu, le, ow, fo, run, wc, lc, tr, cl, tm, ms) (yl, yc, yt, co, pa, su, sc) mc ++ R) := hD
  refine lv_iload_n hx hb dX4_pair_0 rfl (lv_at hl 1 rfl) ?_
  refine zci (zrS (As := [.int (nI a)]) (rest := []) ⟨hx, hb, hml, hown, hts⟩ (zS hP hD hK hE hB hS) (c_X4_isKey  ) (va_cwS 1 hts gX4_pair_X4_isKey rfl rfl rfl hds_X4_isKey ⟨Nat.le_of_ble_eq_true rfl, Nat.le_of_ble_eq_true rfl⟩) rfl rfl hl.1 rfl (lv_room (Nat.le_of_ble_eq_true rfl)) dX4_pair_1 ⟨Nat.le_of_ble_eq_true rfl, Nat.le_of_ble_eq_true rfl⟩) hS (fun H locs hP hD hS => ?_)
  have hP : va_P D vwCl (zWT cI cJ h (n, L) (kt, km, kl) (pt, pm, pl) (nu, le, ow, fo, run, wc, lc, tr, cl, tm, ms) (yl, yc, yt, co, pa, su, sc) mc ++ R) _ := hP
  have hD : va_D (zAb B) (zWT cI cJ h (n, L) (kt, km, kl) (pt, pm, pl) (nu, le, ow, fo, run, wc, lc, tr, cl, tm, ms) (yl, yc, yt, co, pa, su, sc) mc ++ R) := hD
  refine lv_if_eq (tgt := 23) hx hb dX4_pair_4 (by decide) (fun c_1 => ?_) (fun c_1 => ?_)
  · skip
    have c_1 := zq_0 c_1
    exact absurd ⟨nI_pos (by omega), nI_ge h1 (by decide)⟩ c_1
  · skip
    have c_1 := zq_n c_1
    refine lv_iload_n hx hb dX4_pair_7 rfl (lv_at hl 2 rfl) ?_
    refine zci (zrS (As := [.int (nI b)]) (rest := []) ⟨hx, hb, hml, hown, hts⟩ (zS hP hD hK hE hB hS) (c_X4_isKey  ) (va_cwS 1 hts gX4_pair_X4_isKey rfl rfl rfl hds_X4_isKey ⟨Nat.le_of_ble_eq_true rfl, Nat.le_of_ble_eq_true rfl⟩) rfl rfl hl.1 rfl (lv_room (Nat.le_of_ble_eq_true rfl)) dX4_pair_8 ⟨Nat.le_of_ble_eq_true rfl, Nat.le_of_ble_eq_true rfl⟩) hS (fun H locs hP hD hS => ?_)
    have hP : va_P D vwCl (zWT cI cJ h (n, L) (kt, km, kl) (pt, pm, pl) (nu, le, ow, fo, run, wc, lc, tr, cl, tm, ms) (yl, yc, yt, co, pa, su, sc) mc ++ R) _ := hP
    have hD : va_D (zAb B) (zWT cI cJ h (n, L) (kt, km, kl) (pt, pm, pl) (nu, le, ow, fo, run, wc, lc, tr, cl, tm, ms) (yl, yc, yt, co, pa, su, sc) mc ++ R) := hD
    refine lv_if_eq (tgt := 23) hx hb dX4_pair_11 (by decide) (fun c_2 => ?_) (fun c_2 => ?_)
    · skip
      have c_2 := zq_0 c_2
      exact absurd ⟨nI_pos (by omega), nI_ge h2 (by decide)⟩ c_2
    · skip
      have c_2 := zq_n c_2
      refine lv_iload_n hx hb dX4_pair_14 rfl (lv_at hl 3 rfl) ?_
      refine lv_if_lt (tgt := 23) hx hb dX4_pair_15 (by decide) (fun c_3 => ?_) (fun c_3 => ?_)
      · skip
        exfalso; first | omega | (revert c_3; decide) | (exact absurd rfl c_3) | simp_all
      · skip
        refine lv_iload_n hx hb dX4_pair_18 rfl (lv_at hl 3 rfl) ?_
        refine lv_iconst (v := 3) hx hb dX4_pair_19 (by decide) ?_
        refine lv_icmp_le (tgt := 33) hx hb dX4_pair_20 (by decide) (fun c_4 => ?_) (fun c_4 => ?_)
        · skip
          refine lv_iload_n hx hb dX4_pair_33 rfl (lv_at hl 1 rfl) ?_
          refine lv_iload_n hx hb dX4_pair_34 rfl (lv_at hl 2 rfl) ?_
          refine zci (zrS (As := [.int (nI a), .int (nI b)]) (rest := []) ⟨hx, hb, hml, hown, hts⟩ (zS hP hD hK hE hB hS) (c_X4_pairOf  ) (va_cwS 2 hts gX4_pair_X4_pairOf rfl rfl rfl hds_X4_pairOf ⟨Nat.le_of_ble_eq_true rfl, Nat.le_of_ble_eq_true rfl⟩) rfl rfl hl.1 rfl (lv_room (Nat.le_of_ble_eq_true rfl)) dX4_pair_35 ⟨Nat.le_of_ble_eq_true rfl, Nat.le_of_ble_eq_true rfl⟩) hS (fun H locs hP hD hS => ?_)
          have hP : va_P D vwCl (zWT cI cJ h (n, L) (kt, km, kl) (pt, pm, pl) (nu, le, ow, fo, run, wc, lc, tr, cl, tm, ms) (yl, yc, yt, co, pa, su, sc) mc ++ R) _ := hP
          have hD : va_D (zAb B) (zWT cI cJ h (n, L) (kt, km, kl) (pt, pm, pl) (nu, le, ow, fo, run, wc, lc, tr, cl, tm, ms) (yl, yc, yt, co, pa, su, sc) mc ++ R) := hD
          rw [show (26 * (nI a) + (nI b)) = (nI (26 * a + b)) from (by rw [show (26 : Int32) = nI 26 from rfl, pk_mul, nI_add])]
          refine lv_istore (lv' := [(4, .int (nI (26 * a + b))), (0, .ref (h 0)), (1, .int (nI a)), (2, .int (nI b)), (3, .int 0)]) hx hb dX4_pair_38 hl (by decide) rfl (fun ls hl => ?_)
          refine lv_iload_n hx hb dX4_pair_40 rfl (lv_at hl 4 rfl) ?_
          refine lv_iconst (v := 3) hx hb dX4_pair_41 (by decide) ?_
          refine lv_icmp_ne (tgt := 54) hx hb dX4_pair_42 (by decide) (fun c_5 => ?_) (fun c_5 => ?_)
          · skip
            refine lv_aload_n hx hb dX4_pair_54 rfl (lv_at hl 1 rfl) ?_
            refine va_get (ci := 4) (v := .ref (h 7)) (C := RX4) (T := TX4) (N := 6) hx hb hts hinX4 hown hK hP 0 rfl rfl 2 (by decide) (hts (.fieldLink RX4 25 "TypingTutor" "pairs" "LTypingTutor$Knowledge;") (List.mem_of_getElem? (i := 3) rfl)) (fun _ h9 => h9) rfl dX4_pair_55 ?_
            refine lv_iload hx hb dX4_pair_58 (lv_at hl 0 rfl) ?_
            refine lv_iload_n hx hb dX4_pair_60 rfl (lv_at hl 4 rfl) ?_
            refine zci (zrV (As := [.int (nI (26 * a + b)), .int 0]) (rest := []) ⟨hx, hb, hml, hown, hts⟩ (zV 7 hP hD hK hE hB hS rfl rfl) (c_X1_tell_p0 (k := (26 * a + b)) (by omega)) (cwV 2 hts gX4_pair_X1_tell rfl rfl rfl hdv_X1_tell ⟨Nat.le_of_ble_eq_true rfl, Nat.le_of_ble_eq_true rfl⟩) rfl rfl hl.1 rfl (lv_room (Nat.le_of_ble_eq_true rfl)) dX4_pair_61 ⟨Nat.le_of_ble_eq_true rfl, Nat.le_of_ble_eq_true rfl⟩) hS (fun H locs hP hD hS => ?_)
            have hP : va_P D vwCl (zWT cI cJ h (n, L) (kt, km, kl) (pt, pm, pl) (nu, le, ow, fo, run, wc, lc, tr, cl, tm, ms) (yl, yc, yt, co, pa, su, sc) mc ++ R) _ := hP
            have hD : va_D (zAb B) (zWT cI cJ h (n, L) (kt, km, kl) (pt, pm, pl) (nu, le, ow, fo, run, wc, lc, tr, cl, tm, ms) (yl, yc, yt, co, pa, su, sc) mc ++ R) := hD
            exact W.iret (v := (pt (26 * a + b))) hx hb hr (fun t ht hW => ⟨⟨_, (), rfl, rfl, by rw [ht]; exact hP, hD⟩, hS.F ht⟩) hS.2.2 dX4_pair_64
          · skip
            exfalso; first | omega | (revert c_5; decide) | (exact absurd rfl c_5) | simp_all
        · skip
          exfalso; first | omega | (revert c_4; decide) | (exact absurd rfl c_4) | simp_all

set_option maxHeartbeats 1000000 in
set_option maxRecDepth 100000 in
theorem c_X4_pair_1 {l : Launch} {B kr kp : Nat} {D : va_G} {cI cJ cZ : ClassId} {h : Nat → Nat} {R : va_W} {n : Nat} {L : Nat → Int64} {kt : Nat → Int32} {km : Nat → Int32} {kl : Nat → Int32} {pt : Nat → Int32} {pm : Nat → Int32} {pl : Nat → Int32} {nu : Nat → Int32} {le : Nat → Int32} {ow : Nat → Int32} {fo : Nat → Int32} {run : Bool} {wc : Nat} {lc : Nat} {tr : Nat} {cl : Nat} {tm : Nat} {ms : Nat} {yl : Nat → Int32} {yc : Nat → Int32} {yt : Nat → Int32} {co : Nat} {pa : Int32} {su : Nat} {sc : Nat} {mc : Nat → Int32} {a : Nat} {b : Nat}   (h1 : a < 26) (h2 : b < 26) : Met l yX4_pair wsX4_pair ({ frames := 2, cells := 0, slots := 0, locals := 43 }) (zPc B kr kp D (zTy cI cJ cZ) (zWT cI cJ h (n, L) (kt, km, kl) (pt, pm, pl) (nu, le, ow, fo, run, wc, lc, tr, cl, tm, ms) (yl, yc, yt, co, pa, su, sc) mc ++ R) [.ref (h 0), .int (nI a), .int (nI b), .int 1]) (zQi B D (zWT cI cJ h (n, L) (kt, km, kl) (pt, pm, pl) (nu, le, ow, fo, run, wc, lc, tr, cl, tm, ms) (yl, yc, yt, co, pa, su, sc) mc ++ R) (pm (26 * a + b))) 0 0 (zAb B) := by
  refine Met.ofW (cc := cX4_pair) (maxL := 5) (ret := (some .int)) (by decide) rfl ?_
  intro p e s m args below meth c s₁ B0 hml hv
  obtain ⟨rfl, hP, hD, hK, hE, hB⟩ := hv
  have hx := B0.exec
  have hb := B0.bytes
  have hr := B0.returns
  have hts := atoms_spec (ws := wsX4_pair) B0.pre
  have hown : s.vm.findClass RX4 = some m.cls := findClass_of_methodNamed B0.named
  have hlocks := B0.notSynchronized
  have hA : ∀ q : Nat, s.heap.size ≤ q → zAb B q := fun q hq => Nat.le_trans hB hq
  have hS : va_S (zAb B) s.heap s.heap [] := va_S.rf
  have hgr : s.heap.size ≤ s.heap.size := Nat.le_refl _
  have hl := lv_entry ([.ref (h 0), .int (nI a), .int (nI b), .int 1]) (n := 5) (Nat.le_of_ble_eq_true rfl)
  rw [lg_entry_eq]
  generalize (lg_sl ([.ref (h 0), .int (nI a), .int (nI b), .int 1]) ++ List.replicate (5 - (lg_sl ([.ref (h 0), .int (nI a), .int (nI b), .int 1])).length) Slot.unset).toArray = ls at hl ⊢
  have hl : lv_has ls 5 [(0, .ref (h 0)), (1, .int (nI a)), (2, .int (nI b)), (3, .int 1)] := hl
  have hinX4 : ∀ w ∈ wsX40, w ∈ wsX4_pair := fun _ h => List.mem_cons_of_mem _ (List.mem_append_left _ (List.mem_append_left _ (List.mem_append_right _ h)))
  have hP : va_P D vwCl (zWT cI cJ h (n, L) (kt, km, kl) (pt, pm, pl) (nu, le, ow, fo, run, wc, lc, tr, cl, tm, ms) (yl, yc, yt, co, pa, su, sc) mc ++ R) s.heap := hP
  have hD : va_D (zAb B) (zWT cI cJ h (n, L) (kt, km, kl) (pt, pm, pl) (nu, le, ow, fo, run, wc, lc, tr, cl, tm, ms) (yl, yc, yt, co, pa, su, sc) mc ++ R) := hD
  refine lv_iload_n hx hb dX4_pair_0 rfl (lv_at hl 1 rfl) ?_
  refine zci (zrS (As := [.int (nI a)]) (rest := []) ⟨hx, hb, hml, hown, hts⟩ (zS hP hD hK hE hB hS) (c_X4_isKey  ) (va_cwS 1 hts gX4_pair_X4_isKey rfl rfl rfl hds_X4_isKey ⟨Nat.le_of_ble_eq_true rfl, Nat.le_of_ble_eq_true rfl⟩) rfl rfl hl.1 rfl (lv_room (Nat.le_of_ble_eq_true rfl)) dX4_pair_1 ⟨Nat.le_of_ble_eq_true rfl, Nat.le_of_ble_eq_true rfl⟩) hS (fun H locs hP hD hS => ?_)
  have hP : va_P D vwCl (zWT cI cJ h (n, L) (kt, km, kl) (pt, pm, pl) (nu, le, ow, fo, run, wc, lc, tr, cl, tm, ms) (yl, yc, yt, co, pa, su, sc) mc ++ R) _ := hP
  have hD : va_D (zAb B) (zWT cI cJ h (n, L) (kt, km, kl) (pt, pm, pl) (nu, le, ow, fo, run, wc, lc, tr, cl, tm, ms) (yl, yc, yt, co, pa, su, sc) mc ++ R) := hD
  refine lv_if_eq (tgt := 23) hx hb dX4_pair_4 (by decide) (fun c_1 => ?_) (fun c_1 => ?_)
  · skip
    have c_1 := zq_0 c_1
    exact absurd ⟨nI_pos (by omega), nI_ge h1 (by decide)⟩ c_1
  · skip
    have c_1 := zq_n c_1
    refine lv_iload_n hx hb dX4_pair_7 rfl (lv_at hl 2 rfl) ?_
    refine zci (zrS (As := [.int (nI b)]) (rest := []) ⟨hx, hb, hml, hown, hts⟩ (zS hP hD hK hE hB hS) (c_X4_isKey  ) (va_cwS 1 hts gX4_pair_X4_isKey rfl rfl rfl hds_X4_isKey ⟨Nat.le_of_ble_eq_true rfl, Nat.le_of_ble_eq_true rfl⟩) rfl rfl hl.1 rfl (lv_room (Nat.le_of_ble_eq_true rfl)) dX4_pair_8 ⟨Nat.le_of_ble_eq_true rfl, Nat.le_of_ble_eq_true rfl⟩) hS (fun H locs hP hD hS => ?_)
    have hP : va_P D vwCl (zWT cI cJ h (n, L) (kt, km, kl) (pt, pm, pl) (nu, le, ow, fo, run, wc, lc, tr, cl, tm, ms) (yl, yc, yt, co, pa, su, sc) mc ++ R) _ := hP
    have hD : va_D (zAb B) (zWT cI cJ h (n, L) (kt, km, kl) (pt, pm, pl) (nu, le, ow, fo, run, wc, lc, tr, cl, tm, ms) (yl, yc, yt, co, pa, su, sc) mc ++ R) := hD
    refine lv_if_eq (tgt := 23) hx hb dX4_pair_11 (by decide) (fun c_2 => ?_) (fun c_2 => ?_)
    · skip
      have c_2 := zq_0 c_2
      exact absurd ⟨nI_pos (by omega), nI_ge h2 (by decide)⟩ c_2
    · skip
      have c_2 := zq_n c_2
      refine lv_iload_n hx hb dX4_pair_14 rfl (lv_at hl 3 rfl) ?_
      refine lv_if_lt (tgt := 23) hx hb dX4_pair_15 (by decide) (fun c_3 => ?_) (fun c_3 => ?_)
      · skip
        exfalso; first | omega | (revert c_3; decide) | (exact absurd rfl c_3) | simp_all
      · skip
        refine lv_iload_n hx hb dX4_pair_18 rfl (lv_at hl 3 rfl) ?_
        refine lv_iconst (v := 3) hx hb dX4_pair_19 (by decide) ?_
        refine lv_icmp_le (tgt := 33) hx hb dX4_pair_20 (by decide) (fun c_4 => ?_) (fun c_4 => ?_)
        · skip
          refine lv_iload_n hx hb dX4_pair_33 rfl (lv_at hl 1 rfl) ?_
          refine lv_iload_n hx hb dX4_pair_34 rfl (lv_at hl 2 rfl) ?_
          refine zci (zrS (As := [.int (nI a), .int (nI b)]) (rest := []) ⟨hx, hb, hml, hown, hts⟩ (zS hP hD hK hE hB hS) (c_X4_pairOf  ) (va_cwS 2 hts gX4_pair_X4_pairOf rfl rfl rfl hds_X4_pairOf ⟨Nat.le_of_ble_eq_true rfl, Nat.le_of_ble_eq_true rfl⟩) rfl rfl hl.1 rfl (lv_room (Nat.le_of_ble_eq_true rfl)) dX4_pair_35 ⟨Nat.le_of_ble_eq_true rfl, Nat.le_of_ble_eq_true rfl⟩) hS (fun H locs hP hD hS => ?_)
          have hP : va_P D vwCl (zWT cI cJ h (n, L) (kt, km, kl) (pt, pm, pl) (nu, le, ow, fo, run, wc, lc, tr, cl, tm, ms) (yl, yc, yt, co, pa, su, sc) mc ++ R) _ := hP
          have hD : va_D (zAb B) (zWT cI cJ h (n, L) (kt, km, kl) (pt, pm, pl) (nu, le, ow, fo, run, wc, lc, tr, cl, tm, ms) (yl, yc, yt, co, pa, su, sc) mc ++ R) := hD
          rw [show (26 * (nI a) + (nI b)) = (nI (26 * a + b)) from (by rw [show (26 : Int32) = nI 26 from rfl, pk_mul, nI_add])]
          refine lv_istore (lv' := [(4, .int (nI (26 * a + b))), (0, .ref (h 0)), (1, .int (nI a)), (2, .int (nI b)), (3, .int 1)]) hx hb dX4_pair_38 hl (by decide) rfl (fun ls hl => ?_)
          refine lv_iload_n hx hb dX4_pair_40 rfl (lv_at hl 4 rfl) ?_
          refine lv_iconst (v := 3) hx hb dX4_pair_41 (by decide) ?_
          refine lv_icmp_ne (tgt := 54) hx hb dX4_pair_42 (by decide) (fun c_5 => ?_) (fun c_5 => ?_)
          · skip
            refine lv_aload_n hx hb dX4_pair_54 rfl (lv_at hl 1 rfl) ?_
            refine va_get (ci := 4) (v := .ref (h 7)) (C := RX4) (T := TX4) (N := 6) hx hb hts hinX4 hown hK hP 0 rfl rfl 2 (by decide) (hts (.fieldLink RX4 25 "TypingTutor" "pairs" "LTypingTutor$Knowledge;") (List.mem_of_getElem? (i := 3) rfl)) (fun _ h9 => h9) rfl dX4_pair_55 ?_
            refine lv_iload hx hb dX4_pair_58 (lv_at hl 0 rfl) ?_
            refine lv_iload_n hx hb dX4_pair_60 rfl (lv_at hl 4 rfl) ?_
            refine zci (zrV (As := [.int (nI (26 * a + b)), .int 1]) (rest := []) ⟨hx, hb, hml, hown, hts⟩ (zV 7 hP hD hK hE hB hS rfl rfl) (c_X1_tell_p1 (k := (26 * a + b)) (by omega)) (cwV 2 hts gX4_pair_X1_tell rfl rfl rfl hdv_X1_tell ⟨Nat.le_of_ble_eq_true rfl, Nat.le_of_ble_eq_true rfl⟩) rfl rfl hl.1 rfl (lv_room (Nat.le_of_ble_eq_true rfl)) dX4_pair_61 ⟨Nat.le_of_ble_eq_true rfl, Nat.le_of_ble_eq_true rfl⟩) hS (fun H locs hP hD hS => ?_)
            have hP : va_P D vwCl (zWT cI cJ h (n, L) (kt, km, kl) (pt, pm, pl) (nu, le, ow, fo, run, wc, lc, tr, cl, tm, ms) (yl, yc, yt, co, pa, su, sc) mc ++ R) _ := hP
            have hD : va_D (zAb B) (zWT cI cJ h (n, L) (kt, km, kl) (pt, pm, pl) (nu, le, ow, fo, run, wc, lc, tr, cl, tm, ms) (yl, yc, yt, co, pa, su, sc) mc ++ R) := hD
            exact W.iret (v := (pm (26 * a + b))) hx hb hr (fun t ht hW => ⟨⟨_, (), rfl, rfl, by rw [ht]; exact hP, hD⟩, hS.F ht⟩) hS.2.2 dX4_pair_64
          · skip
            exfalso; first | omega | (revert c_5; decide) | (exact absurd rfl c_5) | simp_all
        · skip
          exfalso; first | omega | (revert c_4; decide) | (exact absurd rfl c_4) | simp_all

set_option maxHeartbeats 1000000 in
set_option maxRecDepth 100000 in
theorem c_X4_pair_2 {l : Launch} {B kr kp : Nat} {D : va_G} {cI cJ cZ : ClassId} {h : Nat → Nat} {R : va_W} {n : Nat} {L : Nat → Int64} {kt : Nat → Int32} {km : Nat → Int32} {kl : Nat → Int32} {pt : Nat → Int32} {pm : Nat → Int32} {pl : Nat → Int32} {nu : Nat → Int32} {le : Nat → Int32} {ow : Nat → Int32} {fo : Nat → Int32} {run : Bool} {wc : Nat} {lc : Nat} {tr : Nat} {cl : Nat} {tm : Nat} {ms : Nat} {yl : Nat → Int32} {yc : Nat → Int32} {yt : Nat → Int32} {co : Nat} {pa : Int32} {su : Nat} {sc : Nat} {mc : Nat → Int32} {a : Nat} {b : Nat}   (h1 : a < 26) (h2 : b < 26) : Met l yX4_pair wsX4_pair ({ frames := 2, cells := 0, slots := 0, locals := 43 }) (zPc B kr kp D (zTy cI cJ cZ) (zWT cI cJ h (n, L) (kt, km, kl) (pt, pm, pl) (nu, le, ow, fo, run, wc, lc, tr, cl, tm, ms) (yl, yc, yt, co, pa, su, sc) mc ++ R) [.ref (h 0), .int (nI a), .int (nI b), .int 2]) (zQi B D (zWT cI cJ h (n, L) (kt, km, kl) (pt, pm, pl) (nu, le, ow, fo, run, wc, lc, tr, cl, tm, ms) (yl, yc, yt, co, pa, su, sc) mc ++ R) (pl (26 * a + b))) 0 0 (zAb B) := by
  refine Met.ofW (cc := cX4_pair) (maxL := 5) (ret := (some .int)) (by decide) rfl ?_
  intro p e s m args below meth c s₁ B0 hml hv
  obtain ⟨rfl, hP, hD, hK, hE, hB⟩ := hv
  have hx := B0.exec
  have hb := B0.bytes
  have hr := B0.returns
  have hts := atoms_spec (ws := wsX4_pair) B0.pre
  have hown : s.vm.findClass RX4 = some m.cls := findClass_of_methodNamed B0.named
  have hlocks := B0.notSynchronized
  have hA : ∀ q : Nat, s.heap.size ≤ q → zAb B q := fun q hq => Nat.le_trans hB hq
  have hS : va_S (zAb B) s.heap s.heap [] := va_S.rf
  have hgr : s.heap.size ≤ s.heap.size := Nat.le_refl _
  have hl := lv_entry ([.ref (h 0), .int (nI a), .int (nI b), .int 2]) (n := 5) (Nat.le_of_ble_eq_true rfl)
  rw [lg_entry_eq]
  generalize (lg_sl ([.ref (h 0), .int (nI a), .int (nI b), .int 2]) ++ List.replicate (5 - (lg_sl ([.ref (h 0), .int (nI a), .int (nI b), .int 2])).length) Slot.unset).toArray = ls at hl ⊢
  have hl : lv_has ls 5 [(0, .ref (h 0)), (1, .int (nI a)), (2, .int (nI b)), (3, .int 2)] := hl
  have hinX4 : ∀ w ∈ wsX40, w ∈ wsX4_pair := fun _ h => List.mem_cons_of_mem _ (List.mem_append_left _ (List.mem_append_left _ (List.mem_append_right _ h)))
  have hP : va_P D vwCl (zWT cI cJ h (n, L) (kt, km, kl) (pt, pm, pl) (nu, le, ow, fo, run, wc, lc, tr, cl, tm, ms) (yl, yc, yt, co, pa, su, sc) mc ++ R) s.heap := hP
  have hD : va_D (zAb B) (zWT cI cJ h (n, L) (kt, km, kl) (pt, pm, pl) (nu, le, ow, fo, run, wc, lc, tr, cl, tm, ms) (yl, yc, yt, co, pa, su, sc) mc ++ R) := hD
  refine lv_iload_n hx hb dX4_pair_0 rfl (lv_at hl 1 rfl) ?_
  refine zci (zrS (As := [.int (nI a)]) (rest := []) ⟨hx, hb, hml, hown, hts⟩ (zS hP hD hK hE hB hS) (c_X4_isKey  ) (va_cwS 1 hts gX4_pair_X4_isKey rfl rfl rfl hds_X4_isKey ⟨Nat.le_of_ble_eq_true rfl, Nat.le_of_ble_eq_true rfl⟩) rfl rfl hl.1 rfl (lv_room (Nat.le_of_ble_eq_true rfl)) dX4_pair_1 ⟨Nat.le_of_ble_eq_true rfl, Nat.le_of_ble_eq_true rfl⟩) hS (fun H locs hP hD hS => ?_)
  have hP : va_P D vwCl (zWT cI cJ h (n, L) (kt, km, kl) (pt, pm, pl) (nu, le, ow, fo, run, wc, lc, tr, cl, tm, ms) (yl, yc, yt, co, pa, su, sc) mc ++ R) _ := hP
  have hD : va_D (zAb B) (zWT cI cJ h (n, L) (kt, km, kl) (pt, pm, pl) (nu, le, ow, fo, run, wc, lc, tr, cl, tm, ms) (yl, yc, yt, co, pa, su, sc) mc ++ R) := hD
  refine lv_if_eq (tgt := 23) hx hb dX4_pair_4 (by decide) (fun c_1 => ?_) (fun c_1 => ?_)
  · skip
    have c_1 := zq_0 c_1
    exact absurd ⟨nI_pos (by omega), nI_ge h1 (by decide)⟩ c_1
  · skip
    have c_1 := zq_n c_1
    refine lv_iload_n hx hb dX4_pair_7 rfl (lv_at hl 2 rfl) ?_
    refine zci (zrS (As := [.int (nI b)]) (rest := []) ⟨hx, hb, hml, hown, hts⟩ (zS hP hD hK hE hB hS) (c_X4_isKey  ) (va_cwS 1 hts gX4_pair_X4_isKey rfl rfl rfl hds_X4_isKey ⟨Nat.le_of_ble_eq_true rfl, Nat.le_of_ble_eq_true rfl⟩) rfl rfl hl.1 rfl (lv_room (Nat.le_of_ble_eq_true rfl)) dX4_pair_8 ⟨Nat.le_of_ble_eq_true rfl, Nat.le_of_ble_eq_true rfl⟩) hS (fun H locs hP hD hS => ?_)
    have hP : va_P D vwCl (zWT cI cJ h (n, L) (kt, km, kl) (pt, pm, pl) (nu, le, ow, fo, run, wc, lc, tr, cl, tm, ms) (yl, yc, yt, co, pa, su, sc) mc ++ R) _ := hP
    have hD : va_D (zAb B) (zWT cI cJ h (n, L) (kt, km, kl) (pt, pm, pl) (nu, le, ow, fo, run, wc, lc, tr, cl, tm, ms) (yl, yc, yt, co, pa, su, sc) mc ++ R) := hD
    refine lv_if_eq (tgt := 23) hx hb dX4_pair_11 (by decide) (fun c_2 => ?_) (fun c_2 => ?_)
    · skip
      have c_2 := zq_0 c_2
      exact absurd ⟨nI_pos (by omega), nI_ge h2 (by decide)⟩ c_2
    · skip
      have c_2 := zq_n c_2
      refine lv_iload_n hx hb dX4_pair_14 rfl (lv_at hl 3 rfl) ?_
      refine lv_if_lt (tgt := 23) hx hb dX4_pair_15 (by decide) (fun c_3 => ?_) (fun c_3 => ?_)
      · skip
        exfalso; first | omega | (revert c_3; decide) | (exact absurd rfl c_3) | simp_all
      · skip
        refine lv_iload_n hx hb dX4_pair_18 rfl (lv_at hl 3 rfl) ?_
        refine lv_iconst (v := 3) hx hb dX4_pair_19 (by decide) ?_
        refine lv_icmp_le (tgt := 33) hx hb dX4_pair_20 (by decide) (fun c_4 => ?_) (fun c_4 => ?_)
        · skip
          refine lv_iload_n hx hb dX4_pair_33 rfl (lv_at hl 1 rfl) ?_
          refine lv_iload_n hx hb dX4_pair_34 rfl (lv_at hl 2 rfl) ?_
          refine zci (zrS (As := [.int (nI a), .int (nI b)]) (rest := []) ⟨hx, hb, hml, hown, hts⟩ (zS hP hD hK hE hB hS) (c_X4_pairOf  ) (va_cwS 2 hts gX4_pair_X4_pairOf rfl rfl rfl hds_X4_pairOf ⟨Nat.le_of_ble_eq_true rfl, Nat.le_of_ble_eq_true rfl⟩) rfl rfl hl.1 rfl (lv_room (Nat.le_of_ble_eq_true rfl)) dX4_pair_35 ⟨Nat.le_of_ble_eq_true rfl, Nat.le_of_ble_eq_true rfl⟩) hS (fun H locs hP hD hS => ?_)
          have hP : va_P D vwCl (zWT cI cJ h (n, L) (kt, km, kl) (pt, pm, pl) (nu, le, ow, fo, run, wc, lc, tr, cl, tm, ms) (yl, yc, yt, co, pa, su, sc) mc ++ R) _ := hP
          have hD : va_D (zAb B) (zWT cI cJ h (n, L) (kt, km, kl) (pt, pm, pl) (nu, le, ow, fo, run, wc, lc, tr, cl, tm, ms) (yl, yc, yt, co, pa, su, sc) mc ++ R) := hD
          rw [show (26 * (nI a) + (nI b)) = (nI (26 * a + b)) from (by rw [show (26 : Int32) = nI 26 from rfl, pk_mul, nI_add])]
          refine lv_istore (lv' := [(4, .int (nI (26 * a + b))), (0, .ref (h 0)), (1, .int (nI a)), (2, .int (nI b)), (3, .int 2)]) hx hb dX4_pair_38 hl (by decide) rfl (fun ls hl => ?_)
          refine lv_iload_n hx hb dX4_pair_40 rfl (lv_at hl 4 rfl) ?_
          refine lv_iconst (v := 3) hx hb dX4_pair_41 (by decide) ?_
          refine lv_icmp_ne (tgt := 54) hx hb dX4_pair_42 (by decide) (fun c_5 => ?_) (fun c_5 => ?_)
          · skip
            refine lv_aload_n hx hb dX4_pair_54 rfl (lv_at hl 1 rfl) ?_
            refine va_get (ci := 4) (v := .ref (h 7)) (C := RX4) (T := TX4) (N := 6) hx hb hts hinX4 hown hK hP 0 rfl rfl 2 (by decide) (hts (.fieldLink RX4 25 "TypingTutor" "pairs" "LTypingTutor$Knowledge;") (List.mem_of_getElem? (i := 3) rfl)) (fun _ h9 => h9) rfl dX4_pair_55 ?_
            refine lv_iload hx hb dX4_pair_58 (lv_at hl 0 rfl) ?_
            refine lv_iload_n hx hb dX4_pair_60 rfl (lv_at hl 4 rfl) ?_
            refine zci (zrV (As := [.int (nI (26 * a + b)), .int 2]) (rest := []) ⟨hx, hb, hml, hown, hts⟩ (zV 7 hP hD hK hE hB hS rfl rfl) (c_X1_tell_p2 (k := (26 * a + b)) (by omega)) (cwV 2 hts gX4_pair_X1_tell rfl rfl rfl hdv_X1_tell ⟨Nat.le_of_ble_eq_true rfl, Nat.le_of_ble_eq_true rfl⟩) rfl rfl hl.1 rfl (lv_room (Nat.le_of_ble_eq_true rfl)) dX4_pair_61 ⟨Nat.le_of_ble_eq_true rfl, Nat.le_of_ble_eq_true rfl⟩) hS (fun H locs hP hD hS => ?_)
            have hP : va_P D vwCl (zWT cI cJ h (n, L) (kt, km, kl) (pt, pm, pl) (nu, le, ow, fo, run, wc, lc, tr, cl, tm, ms) (yl, yc, yt, co, pa, su, sc) mc ++ R) _ := hP
            have hD : va_D (zAb B) (zWT cI cJ h (n, L) (kt, km, kl) (pt, pm, pl) (nu, le, ow, fo, run, wc, lc, tr, cl, tm, ms) (yl, yc, yt, co, pa, su, sc) mc ++ R) := hD
            exact W.iret (v := (pl (26 * a + b))) hx hb hr (fun t ht hW => ⟨⟨_, (), rfl, rfl, by rw [ht]; exact hP, hD⟩, hS.F ht⟩) hS.2.2 dX4_pair_64
          · skip
            exfalso; first | omega | (revert c_5; decide) | (exact absurd rfl c_5) | simp_all
        · skip
          exfalso; first | omega | (revert c_4; decide) | (exact absurd rfl c_4) | simp_all

set_option maxHeartbeats 1000000 in
set_option maxRecDepth 100000 in
theorem c_X4_pair_3 {l : Launch} {B kr kp : Nat} {D : va_G} {cI cJ cZ : ClassId} {h : Nat → Nat} {R : va_W} {n : Nat} {L : Nat → Int64} {kt : Nat → Int32} {km : Nat → Int32} {kl : Nat → Int32} {pt : Nat → Int32} {pm : Nat → Int32} {pl : Nat → Int32} {nu : Nat → Int32} {le : Nat → Int32} {ow : Nat → Int32} {fo : Nat → Int32} {run : Bool} {wc : Nat} {lc : Nat} {tr : Nat} {cl : Nat} {tm : Nat} {ms : Nat} {yl : Nat → Int32} {yc : Nat → Int32} {yt : Nat → Int32} {co : Nat} {pa : Int32} {su : Nat} {sc : Nat} {mc : Nat → Int32} {a : Nat} {b : Nat}   (h1 : a < 26) (h2 : b < 26) : Met l yX4_pair wsX4_pair ({ frames := 3, cells := 0, slots := 0, locals := 64 }) (zPc B kr kp D (zTy cI cJ cZ) (zWT cI cJ h (n, L) (kt, km, kl) (pt, pm, pl) (nu, le, ow, fo, run, wc, lc, tr, cl, tm, ms) (yl, yc, yt, co, pa, su, sc) mc ++ R) [.ref (h 0), .int (nI a), .int (nI b), .int 3]) (zQi B D (zWT cI cJ h (n, L) (kt, km, kl) (pt, pm, pl) (nu, le, ow, fo, run, wc, lc, tr, cl, tm, ms) (yl, yc, yt, co, pa, su, sc) mc ++ R) (zwk pt pl (nI (26 * a + b)))) 0 0 (zAb B) := by
  refine Met.ofW (cc := cX4_pair) (maxL := 5) (ret := (some .int)) (by decide) rfl ?_
  intro p e s m args below meth c s₁ B0 hml hv
  obtain ⟨rfl, hP, hD, hK, hE, hB⟩ := hv
  have hx := B0.exec
  have hb := B0.bytes
  have hr := B0.returns
  have hts := atoms_spec (ws := wsX4_pair) B0.pre
  have hown : s.vm.findClass RX4 = some m.cls := findClass_of_methodNamed B0.named
  have hlocks := B0.notSynchronized
  have hA : ∀ q : Nat, s.heap.size ≤ q → zAb B q := fun q hq => Nat.le_trans hB hq
  have hS : va_S (zAb B) s.heap s.heap [] := va_S.rf
  have hgr : s.heap.size ≤ s.heap.size := Nat.le_refl _
  have hl := lv_entry ([.ref (h 0), .int (nI a), .int (nI b), .int 3]) (n := 5) (Nat.le_of_ble_eq_true rfl)
  rw [lg_entry_eq]
  generalize (lg_sl ([.ref (h 0), .int (nI a), .int (nI b), .int 3]) ++ List.replicate (5 - (lg_sl ([.ref (h 0), .int (nI a), .int (nI b), .int 3])).length) Slot.unset).toArray = ls at hl ⊢
  have hl : lv_has ls 5 [(0, .ref (h 0)), (1, .int (nI a)), (2, .int (nI b)), (3, .int 3)] := hl
  have hP : va_P D vwCl (zWT cI cJ h (n, L) (kt, km, kl) (pt, pm, pl) (nu, le, ow, fo, run, wc, lc, tr, cl, tm, ms) (yl, yc, yt, co, pa, su, sc) mc ++ R) s.heap := hP
  have hD : va_D (zAb B) (zWT cI cJ h (n, L) (kt, km, kl) (pt, pm, pl) (nu, le, ow, fo, run, wc, lc, tr, cl, tm, ms) (yl, yc, yt, co, pa, su, sc) mc ++ R) := hD
  refine lv_iload_n hx hb dX4_pair_0 rfl (lv_at hl 1 rfl) ?_
  refine zci (zrS (As := [.int (nI a)]) (rest := []) ⟨hx, hb, hml, hown, hts⟩ (zS hP hD hK hE hB hS) (c_X4_isKey  ) (va_cwS 1 hts gX4_pair_X4_isKey rfl rfl rfl hds_X4_isKey ⟨Nat.le_of_ble_eq_true rfl, Nat.le_of_ble_eq_true rfl⟩) rfl rfl hl.1 rfl (lv_room (Nat.le_of_ble_eq_true rfl)) dX4_pair_1 ⟨Nat.le_of_ble_eq_true rfl, Nat.le_of_ble_eq_true rfl⟩) hS (fun H locs hP hD hS => ?_)
  have hP : va_P D vwCl (zWT cI cJ h (n, L) (kt, km, kl) (pt, pm, pl) (nu, le, ow, fo, run, wc, lc, tr, cl, tm, ms) (yl, yc, yt, co, pa, su, sc) mc ++ R) _ := hP
  have hD : va_D (zAb B) (zWT cI cJ h (n, L) (kt, km, kl) (pt, pm, pl) (nu, le, ow, fo, run, wc, lc, tr, cl, tm, ms) (yl, yc, yt, co, pa, su, sc) mc ++ R) := hD
  refine lv_if_eq (tgt := 23) hx hb dX4_pair_4 (by decide) (fun c_1 => ?_) (fun c_1 => ?_)
  · skip
    have c_1 := zq_0 c_1
    exact absurd ⟨nI_pos (by omega), nI_ge h1 (by decide)⟩ c_1
  · skip
    have c_1 := zq_n c_1
    refine lv_iload_n hx hb dX4_pair_7 rfl (lv_at hl 2 rfl) ?_
    refine zci (zrS (As := [.int (nI b)]) (rest := []) ⟨hx, hb, hml, hown, hts⟩ (zS hP hD hK hE hB hS) (c_X4_isKey  ) (va_cwS 1 hts gX4_pair_X4_isKey rfl rfl rfl hds_X4_isKey ⟨Nat.le_of_ble_eq_true rfl, Nat.le_of_ble_eq_true rfl⟩) rfl rfl hl.1 rfl (lv_room (Nat.le_of_ble_eq_true rfl)) dX4_pair_8 ⟨Nat.le_of_ble_eq_true rfl, Nat.le_of_ble_eq_true rfl⟩) hS (fun H locs hP hD hS => ?_)
    have hP : va_P D vwCl (zWT cI cJ h (n, L) (kt, km, kl) (pt, pm, pl) (nu, le, ow, fo, run, wc, lc, tr, cl, tm, ms) (yl, yc, yt, co, pa, su, sc) mc ++ R) _ := hP
    have hD : va_D (zAb B) (zWT cI cJ h (n, L) (kt, km, kl) (pt, pm, pl) (nu, le, ow, fo, run, wc, lc, tr, cl, tm, ms) (yl, yc, yt, co, pa, su, sc) mc ++ R) := hD
    refine lv_if_eq (tgt := 23) hx hb dX4_pair_11 (by decide) (fun c_2 => ?_) (fun c_2 => ?_)
    · skip
      have c_2 := zq_0 c_2
      exact absurd ⟨nI_pos (by omega), nI_ge h2 (by decide)⟩ c_2
    · skip
      have c_2 := zq_n c_2
      refine lv_iload_n hx hb dX4_pair_14 rfl (lv_at hl 3 rfl) ?_
      refine lv_if_lt (tgt := 23) hx hb dX4_pair_15 (by decide) (fun c_3 => ?_) (fun c_3 => ?_)
      · skip
        exfalso; first | omega | (revert c_3; decide) | (exact absurd rfl c_3) | simp_all
      · skip
        refine lv_iload_n hx hb dX4_pair_18 rfl (lv_at hl 3 rfl) ?_
        refine lv_iconst (v := 3) hx hb dX4_pair_19 (by decide) ?_
        refine lv_icmp_le (tgt := 33) hx hb dX4_pair_20 (by decide) (fun c_4 => ?_) (fun c_4 => ?_)
        · skip
          refine lv_iload_n hx hb dX4_pair_33 rfl (lv_at hl 1 rfl) ?_
          refine lv_iload_n hx hb dX4_pair_34 rfl (lv_at hl 2 rfl) ?_
          refine zci (zrS (As := [.int (nI a), .int (nI b)]) (rest := []) ⟨hx, hb, hml, hown, hts⟩ (zS hP hD hK hE hB hS) (c_X4_pairOf  ) (va_cwS 2 hts gX4_pair_X4_pairOf rfl rfl rfl hds_X4_pairOf ⟨Nat.le_of_ble_eq_true rfl, Nat.le_of_ble_eq_true rfl⟩) rfl rfl hl.1 rfl (lv_room (Nat.le_of_ble_eq_true rfl)) dX4_pair_35 ⟨Nat.le_of_ble_eq_true rfl, Nat.le_of_ble_eq_true rfl⟩) hS (fun H locs hP hD hS => ?_)
          have hP : va_P D vwCl (zWT cI cJ h (n, L) (kt, km, kl) (pt, pm, pl) (nu, le, ow, fo, run, wc, lc, tr, cl, tm, ms) (yl, yc, yt, co, pa, su, sc) mc ++ R) _ := hP
          have hD : va_D (zAb B) (zWT cI cJ h (n, L) (kt, km, kl) (pt, pm, pl) (nu, le, ow, fo, run, wc, lc, tr, cl, tm, ms) (yl, yc, yt, co, pa, su, sc) mc ++ R) := hD
          rw [show (26 * (nI a) + (nI b)) = (nI (26 * a + b)) from (by rw [show (26 : Int32) = nI 26 from rfl, pk_mul, nI_add])]
          refine lv_istore (lv' := [(4, .int (nI (26 * a + b))), (0, .ref (h 0)), (1, .int (nI a)), (2, .int (nI b)), (3, .int 3)]) hx hb dX4_pair_38 hl (by decide) rfl (fun ls hl => ?_)
          refine lv_iload_n hx hb dX4_pair_40 rfl (lv_at hl 4 rfl) ?_
          refine lv_iconst (v := 3) hx hb dX4_pair_41 (by decide) ?_
          refine lv_icmp_ne (tgt := 54) hx hb dX4_pair_42 (by decide) (fun c_5 => ?_) (fun c_5 => ?_)
          · skip
            exfalso; first | omega | (revert c_5; decide) | (exact absurd rfl c_5) | simp_all
          · skip
            refine lv_aload_n hx hb dX4_pair_45 rfl (lv_at hl 1 rfl) ?_
            refine lv_iload hx hb dX4_pair_46 (lv_at hl 0 rfl) ?_
            refine zci (zrV (As := [.int (nI (26 * a + b))]) (rest := []) ⟨hx, hb, hml, hown, hts⟩ (zV 0 hP hD hK hE hB hS rfl rfl) (c_X4_weaknessOf  ) (cwV 1 hts gX4_pair_X4_weaknessOf rfl rfl rfl hdv_X4_weaknessOf ⟨Nat.le_of_ble_eq_true rfl, Nat.le_of_ble_eq_true rfl⟩) rfl rfl hl.1 rfl (lv_room (Nat.le_of_ble_eq_true rfl)) dX4_pair_48 ⟨Nat.le_of_ble_eq_true rfl, Nat.le_of_ble_eq_true rfl⟩) hS (fun H locs hP hD hS => ?_)
            have hP : va_P D vwCl (zWT cI cJ h (n, L) (kt, km, kl) (pt, pm, pl) (nu, le, ow, fo, run, wc, lc, tr, cl, tm, ms) (yl, yc, yt, co, pa, su, sc) mc ++ R) _ := hP
            have hD : va_D (zAb B) (zWT cI cJ h (n, L) (kt, km, kl) (pt, pm, pl) (nu, le, ow, fo, run, wc, lc, tr, cl, tm, ms) (yl, yc, yt, co, pa, su, sc) mc ++ R) := hD
            refine lv_goto (tgt := 64) hx hb dX4_pair_51 (by decide) ?_
            exact W.iret (v := (zwk pt pl (nI (26 * a + b)))) hx hb hr (fun t ht hW => ⟨⟨_, (), rfl, rfl, by rw [ht]; exact hP, hD⟩, hS.F ht⟩) hS.2.2 dX4_pair_64
        · skip
          exfalso; first | omega | (revert c_4; decide) | (exact absurd rfl c_4) | simp_all

set_option maxHeartbeats 1000000 in
set_option maxRecDepth 100000 in
theorem c_X4_pair_x {l : Launch} {B kr kp : Nat} {D : va_G} {cI cJ cZ : ClassId} {h : Nat → Nat} {R : va_W} {n : Nat} {L : Nat → Int64} {kt : Nat → Int32} {km : Nat → Int32} {kl : Nat → Int32} {pt : Nat → Int32} {pm : Nat → Int32} {pl : Nat → Int32} {nu : Nat → Int32} {le : Nat → Int32} {ow : Nat → Int32} {fo : Nat → Int32} {run : Bool} {wc : Nat} {lc : Nat} {tr : Nat} {cl : Nat} {tm : Nat} {ms : Nat} {yl : Nat → Int32} {yc : Nat → Int32} {yt : Nat → Int32} {co : Nat} {pa : Int32} {su : Nat} {sc : Nat} {mc : Nat → Int32} {a : Int32} {b : Int32} {i : Int32}   (hls : l.stackTraces = false) (h1 : ¬ ((¬ a < 0 ∧ ¬ 26 ≤ a) ∧ (¬ b < 0 ∧ ¬ 26 ≤ b) ∧ ¬ i < 0 ∧ i ≤ 3)) : vx_Met l yX4_pair wsX4_pair ({ frames := 6, cells := 1, slots := 6, locals := 82 }) (zPc B kr kp D (zTy cI cJ cZ) (zWT cI cJ h (n, L) (kt, km, kl) (pt, pm, pl) (nu, le, ow, fo, run, wc, lc, tr, cl, tm, ms) (yl, yc, yt, co, pa, su, sc) mc ++ R) [.ref (h 0), .int a, .int b, .int i]) (zQxi B D (zWT cI cJ h (n, L) (kt, km, kl) (pt, pm, pl) (nu, le, ow, fo, run, wc, lc, tr, cl, tm, ms) (yl, yc, yt, co, pa, su, sc) mc ++ R)) (zXC "java/lang/IndexOutOfBoundsException" B D (zWT cI cJ h (n, L) (kt, km, kl) (pt, pm, pl) (nu, le, ow, fo, run, wc, lc, tr, cl, tm, ms) (yl, yc, yt, co, pa, su, sc) mc ++ R)) 1 6 (zAb B) := by
  refine vx_ofW (cc := cX4_pair) (maxL := 5) (ret := (some .int)) (by decide) rfl ?_
  intro p e s m args below meth c s₁ B0 hml ht9 hv
  obtain ⟨rfl, hP, hD, hK, hE, hB⟩ := hv
  have hx := B0.exec
  have hb := B0.bytes
  have hr := B0.returns
  have hts := atoms_spec (ws := wsX4_pair) B0.pre
  have hown : s.vm.findClass RX4 = some m.cls := findClass_of_methodNamed B0.named
  have hlocks := B0.notSynchronized
  have hA : ∀ q : Nat, s.heap.size ≤ q → zAb B q := fun q hq => Nat.le_trans hB hq
  have hS : va_S (zAb B) s.heap s.heap [] := va_S.rf
  have hgr : s.heap.size ≤ s.heap.size := Nat.le_refl _
  have hl := lv_entry ([.ref (h 0), .int a, .int b, .int i]) (n := 5) (Nat.le_of_ble_eq_true rfl)
  rw [lg_entry_eq]
  generalize (lg_sl ([.ref (h 0), .int a, .int b, .int i]) ++ List.replicate (5 - (lg_sl ([.ref (h 0), .int a, .int b, .int i])).length) Slot.unset).toArray = ls at hl ⊢
  have hl : lv_has ls 5 [(0, .ref (h 0)), (1, .int a), (2, .int b), (3, .int i)] := hl
  have hP : va_P D vwCl (zWT cI cJ h (n, L) (kt, km, kl) (pt, pm, pl) (nu, le, ow, fo, run, wc, lc, tr, cl, tm, ms) (yl, yc, yt, co, pa, su, sc) mc ++ R) s.heap := hP
  have hD : va_D (zAb B) (zWT cI cJ h (n, L) (kt, km, kl) (pt, pm, pl) (nu, le, ow, fo, run, wc, lc, tr, cl, tm, ms) (yl, yc, yt, co, pa, su, sc) mc ++ R) := hD
  refine lv_iload_n hx hb dX4_pair_0 rfl (lv_at hl 1 rfl) ?_
  refine zci (zrS (As := [.int a]) (rest := []) ⟨hx, hb, hml, hown, hts⟩ (zS hP hD hK hE hB hS) (c_X4_isKey  ) (va_cwS 1 hts gX4_pair_X4_isKey rfl rfl rfl hds_X4_isKey ⟨Nat.le_of_ble_eq_true rfl, Nat.le_of_ble_eq_true rfl⟩) rfl rfl hl.1 rfl (lv_room (Nat.le_of_ble_eq_true rfl)) dX4_pair_1 ⟨Nat.le_of_ble_eq_true rfl, Nat.le_of_ble_eq_true rfl⟩) hS (fun H locs hP hD hS => ?_)
  have hP : va_P D vwCl (zWT cI cJ h (n, L) (kt, km, kl) (pt, pm, pl) (nu, le, ow, fo, run, wc, lc, tr, cl, tm, ms) (yl, yc, yt, co, pa, su, sc) mc ++ R) _ := hP
  have hD : va_D (zAb B) (zWT cI cJ h (n, L) (kt, km, kl) (pt, pm, pl) (nu, le, ow, fo, run, wc, lc, tr, cl, tm, ms) (yl, yc, yt, co, pa, su, sc) mc ++ R) := hD
  refine lv_if_eq (tgt := 23) hx hb dX4_pair_4 (by decide) (fun c_1 => ?_) (fun c_1 => ?_)
  · skip
    have c_1 := zq_0 c_1
    exact zthrow hx hb hls hown hE hP hD hS (hl.1.trans hml.symm) ht9 hlocks (by decide +kernel) (List.mem_of_getElem? (i := 11) rfl) (by decide +kernel) (hts (.classLink RX4 81 "java/lang/IndexOutOfBoundsException") (List.mem_of_getElem? (i := 1) rfl)) (hts (.initialized "java/lang/IndexOutOfBoundsException") (List.mem_of_getElem? (i := 2) rfl)) (fun w h9 => hts w (List.mem_cons_of_mem _ (List.mem_append_right _ h9))) (by decide +kernel) (by decide +kernel) dX4_pair_23 dX4_pair_26 dX4_pair_27 dX4_pair_29 dX4_pair_32 ⟨Nat.le_of_ble_eq_true rfl, Nat.le_of_ble_eq_true rfl, Nat.le_of_ble_eq_true rfl, Nat.le_of_ble_eq_true rfl⟩
  · skip
    have c_1 := zq_n c_1
    refine lv_iload_n hx hb dX4_pair_7 rfl (lv_at hl 2 rfl) ?_
    refine zci (zrS (As := [.int b]) (rest := []) ⟨hx, hb, hml, hown, hts⟩ (zS hP hD hK hE hB hS) (c_X4_isKey  ) (va_cwS 1 hts gX4_pair_X4_isKey rfl rfl rfl hds_X4_isKey ⟨Nat.le_of_ble_eq_true rfl, Nat.le_of_ble_eq_true rfl⟩) rfl rfl hl.1 rfl (lv_room (Nat.le_of_ble_eq_true rfl)) dX4_pair_8 ⟨Nat.le_of_ble_eq_true rfl, Nat.le_of_ble_eq_true rfl⟩) hS (fun H locs hP hD hS => ?_)
    have hP : va_P D vwCl (zWT cI cJ h (n, L) (kt, km, kl) (pt, pm, pl) (nu, le, ow, fo, run, wc, lc, tr, cl, tm, ms) (yl, yc, yt, co, pa, su, sc) mc ++ R) _ := hP
    have hD : va_D (zAb B) (zWT cI cJ h (n, L) (kt, km, kl) (pt, pm, pl) (nu, le, ow, fo, run, wc, lc, tr, cl, tm, ms) (yl, yc, yt, co, pa, su, sc) mc ++ R) := hD
    refine lv_if_eq (tgt := 23) hx hb dX4_pair_11 (by decide) (fun c_2 => ?_) (fun c_2 => ?_)
    · skip
      have c_2 := zq_0 c_2
      exact zthrow hx hb hls hown hE hP hD hS (hl.1.trans hml.symm) ht9 hlocks (by decide +kernel) (List.mem_of_getElem? (i := 11) rfl) (by decide +kernel) (hts (.classLink RX4 81 "java/lang/IndexOutOfBoundsException") (List.mem_of_getElem? (i := 1) rfl)) (hts (.initialized "java/lang/IndexOutOfBoundsException") (List.mem_of_getElem? (i := 2) rfl)) (fun w h9 => hts w (List.mem_cons_of_mem _ (List.mem_append_right _ h9))) (by decide +kernel) (by decide +kernel) dX4_pair_23 dX4_pair_26 dX4_pair_27 dX4_pair_29 dX4_pair_32 ⟨Nat.le_of_ble_eq_true rfl, Nat.le_of_ble_eq_true rfl, Nat.le_of_ble_eq_true rfl, Nat.le_of_ble_eq_true rfl⟩
    · skip
      have c_2 := zq_n c_2
      refine lv_iload_n hx hb dX4_pair_14 rfl (lv_at hl 3 rfl) ?_
      refine lv_if_lt (tgt := 23) hx hb dX4_pair_15 (by decide) (fun c_3 => ?_) (fun c_3 => ?_)
      · skip
        exact zthrow hx hb hls hown hE hP hD hS (hl.1.trans hml.symm) ht9 hlocks (by decide +kernel) (List.mem_of_getElem? (i := 11) rfl) (by decide +kernel) (hts (.classLink RX4 81 "java/lang/IndexOutOfBoundsException") (List.mem_of_getElem? (i := 1) rfl)) (hts (.initialized "java/lang/IndexOutOfBoundsException") (List.mem_of_getElem? (i := 2) rfl)) (fun w h9 => hts w (List.mem_cons_of_mem _ (List.mem_append_right _ h9))) (by decide +kernel) (by decide +kernel) dX4_pair_23 dX4_pair_26 dX4_pair_27 dX4_pair_29 dX4_pair_32 ⟨Nat.le_of_ble_eq_true rfl, Nat.le_of_ble_eq_true rfl, Nat.le_of_ble_eq_true rfl, Nat.le_of_ble_eq_true rfl⟩
      · skip
        refine lv_iload_n hx hb dX4_pair_18 rfl (lv_at hl 3 rfl) ?_
        refine lv_iconst (v := 3) hx hb dX4_pair_19 (by decide) ?_
        refine lv_icmp_le (tgt := 33) hx hb dX4_pair_20 (by decide) (fun c_4 => ?_) (fun c_4 => ?_)
        · skip
          exact absurd ⟨c_1, c_2, c_3, c_4⟩ h1
        · skip
          exact zthrow hx hb hls hown hE hP hD hS (hl.1.trans hml.symm) ht9 hlocks (by decide +kernel) (List.mem_of_getElem? (i := 11) rfl) (by decide +kernel) (hts (.classLink RX4 81 "java/lang/IndexOutOfBoundsException") (List.mem_of_getElem? (i := 1) rfl)) (hts (.initialized "java/lang/IndexOutOfBoundsException") (List.mem_of_getElem? (i := 2) rfl)) (fun w h9 => hts w (List.mem_cons_of_mem _ (List.mem_append_right _ h9))) (by decide +kernel) (by decide +kernel) dX4_pair_23 dX4_pair_26 dX4_pair_27 dX4_pair_29 dX4_pair_32 ⟨Nat.le_of_ble_eq_true rfl, Nat.le_of_ble_eq_true rfl, Nat.le_of_ble_eq_true rfl, Nat.le_of_ble_eq_true rfl⟩

set_option maxHeartbeats 1000000 in
set_option maxRecDepth 100000 in
theorem c_X4_weakest {l : Launch} {B kr kp : Nat} {D : va_G} {cI cJ cZ : ClassId} {h : Nat → Nat} {R : va_W} {n : Nat} {L : Nat → Int64} {kt : Nat → Int32} {km : Nat → Int32} {kl : Nat → Int32} {pt : Nat → Int32} {pm : Nat → Int32} {pl : Nat → Int32} {nu : Nat → Int32} {le : Nat → Int32} {ow : Nat → Int32} {fo : Nat → Int32} {run : Bool} {wc : Nat} {lc : Nat} {tr : Nat} {cl : Nat} {tm : Nat} {ms : Nat} {yl : Nat → Int32} {yc : Nat → Int32} {yt : Nat → Int32} {co : Nat} {pa : Int32} {su : Nat} {sc : Nat} {mc : Nat → Int32}    (hpt : ∀ p, p < 676 → ∃ k, k < 2147483648 ∧ pt p = nI k) : Met l yX4_weakest wsX4_weakest ({ frames := 3, cells := 0, slots := 0, locals := 64 }) (zPc B kr kp D (zTy cI cJ cZ) (zWT cI cJ h (n, L) (kt, km, kl) (pt, pm, pl) (nu, le, ow, fo, run, wc, lc, tr, cl, tm, ms) (yl, yc, yt, co, pa, su, sc) mc ++ R) [.ref (h 0)]) (zQi B D (zWT cI cJ h (n, L) (kt, km, kl) (pt, pm, pl) (nu, le, ow, fo, run, wc, lc, tr, cl, tm, ms) (yl, yc, yt, co, pa, su, sc) mc ++ R) (zws pt pl 676)) 0 0 (zAb B) := by
  refine Met.ofW (cc := cX4_weakest) (maxL := 3) (ret := (some .int)) (by decide) rfl ?_
  intro p e s m args below meth c s₁ B0 hml hv
  obtain ⟨rfl, hP, hD, hK, hE, hB⟩ := hv
  have hx := B0.exec
  have hb := B0.bytes
  have hr := B0.returns
  have hts := atoms_spec (ws := wsX4_weakest) B0.pre
  have hown : s.vm.findClass RX4 = some m.cls := findClass_of_methodNamed B0.named
  have hlocks := B0.notSynchronized
  have hA : ∀ q : Nat, s.heap.size ≤ q → zAb B q := fun q hq => Nat.le_trans hB hq
  have hS : va_S (zAb B) s.heap s.heap [] := va_S.rf
  have hgr : s.heap.size ≤ s.heap.size := Nat.le_refl _
  have hl := lv_entry ([.ref (h 0)]) (n := 3) (Nat.le_of_ble_eq_true rfl)
  rw [lg_entry_eq]
  generalize (lg_sl ([.ref (h 0)]) ++ List.replicate (3 - (lg_sl ([.ref (h 0)])).length) Slot.unset).toArray = ls at hl ⊢
  have hl : lv_has ls 3 [(0, .ref (h 0))] := hl
  have hinX4 : ∀ w ∈ wsX40, w ∈ wsX4_weakest := fun _ h => List.mem_cons_of_mem _ (List.mem_append_left _ (List.mem_append_right _ h))
  have hP : va_P D vwCl (zWT cI cJ h (n, L) (kt, km, kl) (pt, pm, pl) (nu, le, ow, fo, run, wc, lc, tr, cl, tm, ms) (yl, yc, yt, co, pa, su, sc) mc ++ R) s.heap := hP
  have hD : va_D (zAb B) (zWT cI cJ h (n, L) (kt, km, kl) (pt, pm, pl) (nu, le, ow, fo, run, wc, lc, tr, cl, tm, ms) (yl, yc, yt, co, pa, su, sc) mc ++ R) := hD
  refine lv_iconst (v := (-1)) hx hb dX4_weakest_0 (by decide) ?_
  refine lv_istore_n (lv' := [(1, .int (-1)), (0, .ref (h 0))]) hx hb dX4_weakest_1 rfl hl (by decide) rfl (fun ls hl => ?_)
  refine lv_iconst (v := 0) hx hb dX4_weakest_2 (by decide) ?_
  refine lv_istore_n (lv' := [(2, .int 0), (1, .int (-1)), (0, .ref (h 0))]) hx hb dX4_weakest_3 rfl hl (by decide) rfl (fun ls hl => ?_)
  refine zloop (σ := (Nat) × (Int32)) (nL := 3) (fun x9 => (zWT cI cJ h (n, L) (kt, km, kl) (pt, pm, pl) (nu, le, ow, fo, run, wc, lc, tr, cl, tm, ms) (yl, yc, yt, co, pa, su, sc) mc ++ R)) (fun x9 => [(2, .int (nI x9.1)), (1, .int x9.2), (0, .ref (h 0))]) (fun x9 => []) (fun x9 => (x9.1 ≤ 676) ∧ x9.2 = zws pt pl x9.1) (fun x9 => 676 - x9.1) ?_ (0, -1) (⟨by omega, rfl⟩) _ _ _ hP hD hS (lv_sub hl [0, 1, 2] rfl)
  rintro ⟨j, z⟩ hI ih H locs ls hP hD hS hl
  try dsimp only at hI ih hP hD hS hl ⊢
  obtain ⟨hI, rfl⟩ := hI
  refine lv_iload_n hx hb dX4_weakest_4 rfl (lv_at hl 0 rfl) ?_
  refine lv_sipush (v := 676) hx hb dX4_weakest_5 (by decide) ?_
  refine lv_icmp_ge (tgt := 48) hx hb dX4_weakest_8 (by decide) (fun c_1 => ?_) (fun c_1 => ?_)
  · skip
    have c_1 : 676 ≤ j := (nI_leI (a := 676) (b := j) (by omega) (by omega)).mp c_1
    obtain rfl : 676 = j := by omega
    refine lv_iload_n hx hb dX4_weakest_48 rfl (lv_at hl 1 rfl) ?_
    exact W.iret (v := (zws pt pl 676)) hx hb hr (fun t ht hW => ⟨⟨_, (), rfl, rfl, by rw [ht]; exact hP, hD⟩, hS.F ht⟩) hS.2.2 dX4_weakest_49
  · skip
    have c_1 : ¬ 676 ≤ j := fun hh => c_1 ((nI_leI (a := 676) (b := j) (by omega) (by omega)).mpr hh)
    refine lv_aload_n hx hb dX4_weakest_11 rfl (lv_at hl 2 rfl) ?_
    refine va_get (ci := 4) (v := .ref (h 7)) (C := RX4) (T := TX4) (N := 6) hx hb hts hinX4 hown hK hP 0 rfl rfl 2 (by decide) (hts (.fieldLink RX4 25 "TypingTutor" "pairs" "LTypingTutor$Knowledge;") (List.mem_of_getElem? (i := 1) rfl)) (fun _ h9 => h9) rfl dX4_weakest_12 ?_
    refine lv_iload_n hx hb dX4_weakest_15 rfl (lv_at hl 0 rfl) ?_
    refine zci (zrV (As := [.int (nI j)]) (rest := []) ⟨hx, hb, hml, hown, hts⟩ (zV 7 hP hD hK hE hB hS rfl rfl) (c_X1_triesOf_p  ) (cwV 1 hts gX4_weakest_X1_triesOf rfl rfl rfl hdv_X1_triesOf ⟨Nat.le_of_ble_eq_true rfl, Nat.le_of_ble_eq_true rfl⟩) rfl rfl hl.1 rfl (lv_room (Nat.le_of_ble_eq_true rfl)) dX4_weakest_16 ⟨Nat.le_of_ble_eq_true rfl, Nat.le_of_ble_eq_true rfl⟩) hS (fun H locs hP hD hS => ?_)
    have hP : va_P D vwCl (zWT cI cJ h (n, L) (kt, km, kl) (pt, pm, pl) (nu, le, ow, fo, run, wc, lc, tr, cl, tm, ms) (yl, yc, yt, co, pa, su, sc) mc ++ R) _ := hP
    have hD : va_D (zAb B) (zWT cI cJ h (n, L) (kt, km, kl) (pt, pm, pl) (nu, le, ow, fo, run, wc, lc, tr, cl, tm, ms) (yl, yc, yt, co, pa, su, sc) mc ++ R) := hD
    rw [show (zrd 676 pt (nI j)) = (pt j) from zrd_in (by omega) (by omega)]
    refine lv_if_le (tgt := 42) hx hb dX4_weakest_19 (by decide) (fun c_2 => ?_) (fun c_2 => ?_)
    · skip
      refine lv_iinc (v := (nI (j + 1))) (lv' := [(2, .int (nI (j + 1))), (1, .int (zws pt pl j)), (0, .ref (h 0))]) hx hb dX4_weakest_42 hl (k := 0) rfl (nI_add j 1) (by decide) rfl (fun ls hl => ?_)
      refine lv_goto (tgt := 4) hx hb dX4_weakest_45 (by decide) ?_
      exact ih (j + 1, (zws pt pl j)) (⟨by omega, (if_pos (zle0 (hpt j (by omega)) c_2)).symm⟩) (by omega) _ _ _ hP hD hS (lv_sub hl [0, 1, 2] rfl)
    · skip
      refine lv_iload_n hx hb dX4_weakest_22 rfl (lv_at hl 1 rfl) ?_
      refine lv_iconst (v := (-1)) hx hb dX4_weakest_23 (by decide) ?_
      refine lv_icmp_eq (tgt := 40) hx hb dX4_weakest_24 (by decide) (fun c_3 => ?_) (fun c_3 => ?_)
      · skip
        refine lv_iload_n hx hb dX4_weakest_40 rfl (lv_at hl 0 rfl) ?_
        refine lv_istore_n (lv' := [(1, .int (nI j)), (2, .int (nI j)), (0, .ref (h 0))]) hx hb dX4_weakest_41 rfl hl (by decide) rfl (fun ls hl => ?_)
        refine lv_iinc (v := (nI (j + 1))) (lv' := [(2, .int (nI (j + 1))), (1, .int (nI j)), (0, .ref (h 0))]) hx hb dX4_weakest_42 hl (k := 1) rfl (nI_add j 1) (by decide) rfl (fun ls hl => ?_)
        refine lv_goto (tgt := 4) hx hb dX4_weakest_45 (by decide) ?_
        exact ih (j + 1, (nI j)) (⟨by omega, ((if_neg (znle0 c_2)).trans (if_pos (Or.inl c_3))).symm⟩) (by omega) _ _ _ hP hD hS (lv_sub hl [0, 1, 2] rfl)
      · skip
        refine lv_aload_n hx hb dX4_weakest_27 rfl (lv_at hl 2 rfl) ?_
        refine lv_iload_n hx hb dX4_weakest_28 rfl (lv_at hl 0 rfl) ?_
        refine zci (zrV (As := [.int (nI j)]) (rest := []) ⟨hx, hb, hml, hown, hts⟩ (zV 0 hP hD hK hE hB hS rfl rfl) (c_X4_weaknessOf  ) (cwV 1 hts gX4_weakest_X4_weaknessOf rfl rfl rfl hdv_X4_weaknessOf ⟨Nat.le_of_ble_eq_true rfl, Nat.le_of_ble_eq_true rfl⟩) rfl rfl hl.1 rfl (lv_room (Nat.le_of_ble_eq_true rfl)) dX4_weakest_29 ⟨Nat.le_of_ble_eq_true rfl, Nat.le_of_ble_eq_true rfl⟩) hS (fun H locs hP hD hS => ?_)
        have hP : va_P D vwCl (zWT cI cJ h (n, L) (kt, km, kl) (pt, pm, pl) (nu, le, ow, fo, run, wc, lc, tr, cl, tm, ms) (yl, yc, yt, co, pa, su, sc) mc ++ R) _ := hP
        have hD : va_D (zAb B) (zWT cI cJ h (n, L) (kt, km, kl) (pt, pm, pl) (nu, le, ow, fo, run, wc, lc, tr, cl, tm, ms) (yl, yc, yt, co, pa, su, sc) mc ++ R) := hD
        refine lv_aload_n hx hb dX4_weakest_32 rfl (lv_at hl 2 rfl) ?_
        refine lv_iload_n hx hb dX4_weakest_33 rfl (lv_at hl 1 rfl) ?_
        refine zci (zrV (As := [.int (zws pt pl j)]) (rest := [.int (zwk pt pl (nI j))]) ⟨hx, hb, hml, hown, hts⟩ (zV 0 hP hD hK hE hB hS rfl rfl) (c_X4_weaknessOf  ) (cwV 1 hts gX4_weakest_X4_weaknessOf rfl rfl rfl hdv_X4_weaknessOf ⟨Nat.le_of_ble_eq_true rfl, Nat.le_of_ble_eq_true rfl⟩) rfl rfl hl.1 rfl (lv_room (Nat.le_of_ble_eq_true rfl)) dX4_weakest_34 ⟨Nat.le_of_ble_eq_true rfl, Nat.le_of_ble_eq_true rfl⟩) hS (fun H locs hP hD hS => ?_)
        have hP : va_P D vwCl (zWT cI cJ h (n, L) (kt, km, kl) (pt, pm, pl) (nu, le, ow, fo, run, wc, lc, tr, cl, tm, ms) (yl, yc, yt, co, pa, su, sc) mc ++ R) _ := hP
        have hD : va_D (zAb B) (zWT cI cJ h (n, L) (kt, km, kl) (pt, pm, pl) (nu, le, ow, fo, run, wc, lc, tr, cl, tm, ms) (yl, yc, yt, co, pa, su, sc) mc ++ R) := hD
        refine lv_icmp_le (tgt := 42) hx hb dX4_weakest_37 (by decide) (fun c_4 => ?_) (fun c_4 => ?_)
        · skip
          refine lv_iinc (v := (nI (j + 1))) (lv' := [(2, .int (nI (j + 1))), (1, .int (zws pt pl j)), (0, .ref (h 0))]) hx hb dX4_weakest_42 hl (k := 0) rfl (nI_add j 1) (by decide) rfl (fun ls hl => ?_)
          refine lv_goto (tgt := 4) hx hb dX4_weakest_45 (by decide) ?_
          exact ih (j + 1, (zws pt pl j)) (⟨by omega, ((if_neg (znle0 c_2)).trans (if_neg (fun hh => hh.elim c_3 (Int32.not_lt.mpr c_4)))).symm⟩) (by omega) _ _ _ hP hD hS (lv_sub hl [0, 1, 2] rfl)
        · skip
          refine lv_iload_n hx hb dX4_weakest_40 rfl (lv_at hl 0 rfl) ?_
          refine lv_istore_n (lv' := [(1, .int (nI j)), (2, .int (nI j)), (0, .ref (h 0))]) hx hb dX4_weakest_41 rfl hl (by decide) rfl (fun ls hl => ?_)
          refine lv_iinc (v := (nI (j + 1))) (lv' := [(2, .int (nI (j + 1))), (1, .int (nI j)), (0, .ref (h 0))]) hx hb dX4_weakest_42 hl (k := 1) rfl (nI_add j 1) (by decide) rfl (fun ls hl => ?_)
          refine lv_goto (tgt := 4) hx hb dX4_weakest_45 (by decide) ?_
          exact ih (j + 1, (nI j)) (⟨by omega, ((if_neg (znle0 c_2)).trans (if_pos (Or.inr (Int32.not_le.mp c_4)))).symm⟩) (by omega) _ _ _ hP hD hS (lv_sub hl [0, 1, 2] rfl)

set_option maxHeartbeats 1000000 in
set_option maxRecDepth 100000 in
theorem c_X4_mistakes {l : Launch} {B kr kp : Nat} {D : va_G} {cI cJ cZ : ClassId} {h : Nat → Nat} {R : va_W} {n : Nat} {L : Nat → Int64} {kt : Nat → Int32} {km : Nat → Int32} {kl : Nat → Int32} {pt : Nat → Int32} {pm : Nat → Int32} {pl : Nat → Int32} {nu : Nat → Int32} {le : Nat → Int32} {ow : Nat → Int32} {fo : Nat → Int32} {run : Bool} {wc : Nat} {lc : Nat} {tr : Nat} {cl : Nat} {tm : Nat} {ms : Nat} {yl : Nat → Int32} {yc : Nat → Int32} {yt : Nat → Int32} {co : Nat} {pa : Int32} {su : Nat} {sc : Nat} {mc : Nat → Int32} {k : Nat}   (h1 : 1 ≤ k) (h4 : k ≤ 4) : Met l yX4_mistakes wsX4_mistakes ({ frames := 1, cells := 0, slots := 0, locals := 21 }) (zPc B kr kp D (zTy cI cJ cZ) (zWT cI cJ h (n, L) (kt, km, kl) (pt, pm, pl) (nu, le, ow, fo, run, wc, lc, tr, cl, tm, ms) (yl, yc, yt, co, pa, su, sc) mc ++ R) [.ref (h 0), .int (nI k)]) (zQi B D (zWT cI cJ h (n, L) (kt, km, kl) (pt, pm, pl) (nu, le, ow, fo, run, wc, lc, tr, cl, tm, ms) (yl, yc, yt, co, pa, su, sc) mc ++ R) (mc k)) 0 0 (zAb B) := by
  refine Met.ofW (cc := cX4_mistakes) (maxL := 2) (ret := (some .int)) (by decide) rfl ?_
  intro p e s m args below meth c s₁ B0 hml hv
  obtain ⟨rfl, hP, hD, hK, hE, hB⟩ := hv
  have hx := B0.exec
  have hb := B0.bytes
  have hr := B0.returns
  have hts := atoms_spec (ws := wsX4_mistakes) B0.pre
  have hown : s.vm.findClass RX4 = some m.cls := findClass_of_methodNamed B0.named
  have hlocks := B0.notSynchronized
  have hA : ∀ q : Nat, s.heap.size ≤ q → zAb B q := fun q hq => Nat.le_trans hB hq
  have hS : va_S (zAb B) s.heap s.heap [] := va_S.rf
  have hgr : s.heap.size ≤ s.heap.size := Nat.le_refl _
  have hl := lv_entry ([.ref (h 0), .int (nI k)]) (n := 2) (Nat.le_of_ble_eq_true rfl)
  rw [lg_entry_eq]
  generalize (lg_sl ([.ref (h 0), .int (nI k)]) ++ List.replicate (2 - (lg_sl ([.ref (h 0), .int (nI k)])).length) Slot.unset).toArray = ls at hl ⊢
  have hl : lv_has ls 2 [(0, .ref (h 0)), (1, .int (nI k))] := hl
  have hinX4 : ∀ w ∈ wsX40, w ∈ wsX4_mistakes := fun _ h => List.mem_cons_of_mem _ (List.mem_append_left _ (List.mem_append_right _ h))
  have hP : va_P D vwCl (zWT cI cJ h (n, L) (kt, km, kl) (pt, pm, pl) (nu, le, ow, fo, run, wc, lc, tr, cl, tm, ms) (yl, yc, yt, co, pa, su, sc) mc ++ R) s.heap := hP
  have hD : va_D (zAb B) (zWT cI cJ h (n, L) (kt, km, kl) (pt, pm, pl) (nu, le, ow, fo, run, wc, lc, tr, cl, tm, ms) (yl, yc, yt, co, pa, su, sc) mc ++ R) := hD
  refine lv_iload_n hx hb dX4_mistakes_0 rfl (lv_at hl 1 rfl) ?_
  refine lv_iconst (v := 1) hx hb dX4_mistakes_1 (by decide) ?_
  refine lv_icmp_lt (tgt := 10) hx hb dX4_mistakes_2 (by decide) (fun c_1 => ?_) (fun c_1 => ?_)
  · skip
    have c_1 : k < 1 := (nI_ltI (a := k) (b := 1) (by omega) (by omega)).mp c_1
    exfalso; first | omega | (revert c_1; decide) | (exact absurd rfl c_1) | simp_all
  · skip
    have c_1 : ¬ k < 1 := fun hh => c_1 ((nI_ltI (a := k) (b := 1) (by omega) (by omega)).mpr hh)
    refine lv_iload_n hx hb dX4_mistakes_5 rfl (lv_at hl 1 rfl) ?_
    refine lv_iconst (v := 4) hx hb dX4_mistakes_6 (by decide) ?_
    refine lv_icmp_le (tgt := 20) hx hb dX4_mistakes_7 (by decide) (fun c_2 => ?_) (fun c_2 => ?_)
    · skip
      have c_2 : k ≤ 4 := (nI_leI (a := k) (b := 4) (by omega) (by omega)).mp c_2
      refine lv_aload_n hx hb dX4_mistakes_20 rfl (lv_at hl 0 rfl) ?_
      refine va_get (ci := 4) (v := .ref (h 20)) (C := RX4) (T := TX4) (N := 6) hx hb hts hinX4 hown hK hP 0 rfl rfl 5 (by decide) (hts (.fieldLink RX4 42 "TypingTutor" "mistakeCounts" "[I") (List.mem_of_getElem? (i := 3) rfl)) (fun _ h9 => h9) rfl dX4_mistakes_21 ?_
      refine lv_iload_n hx hb dX4_mistakes_24 rfl (lv_at hl 1 rfl) ?_
      refine zci (zrS (As := [.ref (h 20), .int (nI k)]) (rest := []) ⟨hx, hb, hml, hown, hts⟩ (zS hP hD hK hE hB hS) (c_X4_read (q0 := 20) rfl (by omega)) (va_cwS 2 hts gX4_mistakes_X4_read rfl rfl rfl hds_X4_read ⟨Nat.le_of_ble_eq_true rfl, Nat.le_of_ble_eq_true rfl⟩) rfl rfl hl.1 rfl (lv_room (Nat.le_of_ble_eq_true rfl)) dX4_mistakes_25 ⟨Nat.le_of_ble_eq_true rfl, Nat.le_of_ble_eq_true rfl⟩) hS (fun H locs hP hD hS => ?_)
      have hP : va_P D vwCl (zWT cI cJ h (n, L) (kt, km, kl) (pt, pm, pl) (nu, le, ow, fo, run, wc, lc, tr, cl, tm, ms) (yl, yc, yt, co, pa, su, sc) mc ++ R) _ := hP
      have hD : va_D (zAb B) (zWT cI cJ h (n, L) (kt, km, kl) (pt, pm, pl) (nu, le, ow, fo, run, wc, lc, tr, cl, tm, ms) (yl, yc, yt, co, pa, su, sc) mc ++ R) := hD
      rw [show (zrd 5 mc (nI k)) = (mc k) from (zrd_in (n := 5) (k := k) (f := mc) (by omega) (by omega))]
      exact W.iret (v := (mc k)) hx hb hr (fun t ht hW => ⟨⟨_, (), rfl, rfl, by rw [ht]; exact hP, hD⟩, hS.F ht⟩) hS.2.2 dX4_mistakes_28
    · skip
      have c_2 : ¬ k ≤ 4 := fun hh => c_2 ((nI_leI (a := k) (b := 4) (by omega) (by omega)).mpr hh)
      exfalso; first | omega | (revert c_2; decide) | (exact absurd rfl c_2) | simp_all

set_option maxHeartbeats 1000000 in
set_option maxRecDepth 100000 in
theorem c_X4_mistakes_x {l : Launch} {B kr kp : Nat} {D : va_G} {cI cJ cZ : ClassId} {h : Nat → Nat} {R : va_W} {n : Nat} {L : Nat → Int64} {kt : Nat → Int32} {km : Nat → Int32} {kl : Nat → Int32} {pt : Nat → Int32} {pm : Nat → Int32} {pl : Nat → Int32} {nu : Nat → Int32} {le : Nat → Int32} {ow : Nat → Int32} {fo : Nat → Int32} {run : Bool} {wc : Nat} {lc : Nat} {tr : Nat} {cl : Nat} {tm : Nat} {ms : Nat} {yl : Nat → Int32} {yc : Nat → Int32} {yt : Nat → Int32} {co : Nat} {pa : Int32} {su : Nat} {sc : Nat} {mc : Nat → Int32} {i : Int32}   (hls : l.stackTraces = false) (hi : i < 1 ∨ ¬ i ≤ 4) : vx_Met l yX4_mistakes wsX4_mistakes ({ frames := 6, cells := 1, slots := 6, locals := 82 }) (zPc B kr kp D (zTy cI cJ cZ) (zWT cI cJ h (n, L) (kt, km, kl) (pt, pm, pl) (nu, le, ow, fo, run, wc, lc, tr, cl, tm, ms) (yl, yc, yt, co, pa, su, sc) mc ++ R) [.ref (h 0), .int i]) (zQxi B D (zWT cI cJ h (n, L) (kt, km, kl) (pt, pm, pl) (nu, le, ow, fo, run, wc, lc, tr, cl, tm, ms) (yl, yc, yt, co, pa, su, sc) mc ++ R)) (zXC "java/lang/IndexOutOfBoundsException" B D (zWT cI cJ h (n, L) (kt, km, kl) (pt, pm, pl) (nu, le, ow, fo, run, wc, lc, tr, cl, tm, ms) (yl, yc, yt, co, pa, su, sc) mc ++ R)) 1 6 (zAb B) := by
  refine vx_ofW (cc := cX4_mistakes) (maxL := 2) (ret := (some .int)) (by decide) rfl ?_
  intro p e s m args below meth c s₁ B0 hml ht9 hv
  obtain ⟨rfl, hP, hD, hK, hE, hB⟩ := hv
  have hx := B0.exec
  have hb := B0.bytes
  have hr := B0.returns
  have hts := atoms_spec (ws := wsX4_mistakes) B0.pre
  have hown : s.vm.findClass RX4 = some m.cls := findClass_of_methodNamed B0.named
  have hlocks := B0.notSynchronized
  have hA : ∀ q : Nat, s.heap.size ≤ q → zAb B q := fun q hq => Nat.le_trans hB hq
  have hS : va_S (zAb B) s.heap s.heap [] := va_S.rf
  have hgr : s.heap.size ≤ s.heap.size := Nat.le_refl _
  have hl := lv_entry ([.ref (h 0), .int i]) (n := 2) (Nat.le_of_ble_eq_true rfl)
  rw [lg_entry_eq]
  generalize (lg_sl ([.ref (h 0), .int i]) ++ List.replicate (2 - (lg_sl ([.ref (h 0), .int i])).length) Slot.unset).toArray = ls at hl ⊢
  have hl : lv_has ls 2 [(0, .ref (h 0)), (1, .int i)] := hl
  have hP : va_P D vwCl (zWT cI cJ h (n, L) (kt, km, kl) (pt, pm, pl) (nu, le, ow, fo, run, wc, lc, tr, cl, tm, ms) (yl, yc, yt, co, pa, su, sc) mc ++ R) s.heap := hP
  have hD : va_D (zAb B) (zWT cI cJ h (n, L) (kt, km, kl) (pt, pm, pl) (nu, le, ow, fo, run, wc, lc, tr, cl, tm, ms) (yl, yc, yt, co, pa, su, sc) mc ++ R) := hD
  refine lv_iload_n hx hb dX4_mistakes_0 rfl (lv_at hl 1 rfl) ?_
  refine lv_iconst (v := 1) hx hb dX4_mistakes_1 (by decide) ?_
  refine lv_icmp_lt (tgt := 10) hx hb dX4_mistakes_2 (by decide) (fun c_1 => ?_) (fun c_1 => ?_)
  · skip
    exact zthrow hx hb hls hown hE hP hD hS (hl.1.trans hml.symm) ht9 hlocks (by decide +kernel) (List.mem_of_getElem? (i := 12) rfl) (by decide +kernel) (hts (.classLink RX4 81 "java/lang/IndexOutOfBoundsException") (List.mem_of_getElem? (i := 1) rfl)) (hts (.initialized "java/lang/IndexOutOfBoundsException") (List.mem_of_getElem? (i := 2) rfl)) (fun w h9 => hts w (List.mem_cons_of_mem _ (List.mem_append_right _ h9))) (by decide +kernel) (by decide +kernel) dX4_mistakes_10 dX4_mistakes_13 dX4_mistakes_14 dX4_mistakes_16 dX4_mistakes_19 ⟨Nat.le_of_ble_eq_true rfl, Nat.le_of_ble_eq_true rfl, Nat.le_of_ble_eq_true rfl, Nat.le_of_ble_eq_true rfl⟩
  · skip
    refine lv_iload_n hx hb dX4_mistakes_5 rfl (lv_at hl 1 rfl) ?_
    refine lv_iconst (v := 4) hx hb dX4_mistakes_6 (by decide) ?_
    refine lv_icmp_le (tgt := 20) hx hb dX4_mistakes_7 (by decide) (fun c_2 => ?_) (fun c_2 => ?_)
    · skip
      exact hi.elim (fun q => absurd q c_1) (fun q => absurd c_2 q)
    · skip
      exact zthrow hx hb hls hown hE hP hD hS (hl.1.trans hml.symm) ht9 hlocks (by decide +kernel) (List.mem_of_getElem? (i := 12) rfl) (by decide +kernel) (hts (.classLink RX4 81 "java/lang/IndexOutOfBoundsException") (List.mem_of_getElem? (i := 1) rfl)) (hts (.initialized "java/lang/IndexOutOfBoundsException") (List.mem_of_getElem? (i := 2) rfl)) (fun w h9 => hts w (List.mem_cons_of_mem _ (List.mem_append_right _ h9))) (by decide +kernel) (by decide +kernel) dX4_mistakes_10 dX4_mistakes_13 dX4_mistakes_14 dX4_mistakes_16 dX4_mistakes_19 ⟨Nat.le_of_ble_eq_true rfl, Nat.le_of_ble_eq_true rfl, Nat.le_of_ble_eq_true rfl, Nat.le_of_ble_eq_true rfl⟩

set_option maxHeartbeats 1000000 in
set_option maxRecDepth 100000 in
theorem c_X4_lessons {l : Launch} {B kr kp : Nat} {D : va_G} {cI cJ cZ : ClassId} {h : Nat → Nat} {R : va_W} {n : Nat} {L : Nat → Int64} {kt : Nat → Int32} {km : Nat → Int32} {kl : Nat → Int32} {pt : Nat → Int32} {pm : Nat → Int32} {pl : Nat → Int32} {nu : Nat → Int32} {le : Nat → Int32} {ow : Nat → Int32} {fo : Nat → Int32} {run : Bool} {wc : Nat} {lc : Nat} {tr : Nat} {cl : Nat} {tm : Nat} {ms : Nat} {yl : Nat → Int32} {yc : Nat → Int32} {yt : Nat → Int32} {co : Nat} {pa : Int32} {su : Nat} {sc : Nat} {mc : Nat → Int32}     : Met l yX4_lessons wsX4_lessons ({ frames := 1, cells := 0, slots := 0, locals := 20 }) (zPc B kr kp D (zTy cI cJ cZ) (zWT cI cJ h (n, L) (kt, km, kl) (pt, pm, pl) (nu, le, ow, fo, run, wc, lc, tr, cl, tm, ms) (yl, yc, yt, co, pa, su, sc) mc ++ R) [.ref (h 0)]) (zQi B D (zWT cI cJ h (n, L) (kt, km, kl) (pt, pm, pl) (nu, le, ow, fo, run, wc, lc, tr, cl, tm, ms) (yl, yc, yt, co, pa, su, sc) mc ++ R) (nI co)) 0 0 (zAb B) := by
  refine Met.ofW (cc := cX4_lessons) (maxL := 1) (ret := (some .int)) (by decide) rfl ?_
  intro p e s m args below meth c s₁ B0 hml hv
  obtain ⟨rfl, hP, hD, hK, hE, hB⟩ := hv
  have hx := B0.exec
  have hb := B0.bytes
  have hr := B0.returns
  have hts := atoms_spec (ws := wsX4_lessons) B0.pre
  have hown : s.vm.findClass RX4 = some m.cls := findClass_of_methodNamed B0.named
  have hlocks := B0.notSynchronized
  have hA : ∀ q : Nat, s.heap.size ≤ q → zAb B q := fun q hq => Nat.le_trans hB hq
  have hS : va_S (zAb B) s.heap s.heap [] := va_S.rf
  have hgr : s.heap.size ≤ s.heap.size := Nat.le_refl _
  have hl := lv_entry ([.ref (h 0)]) (n := 1) (Nat.le_of_ble_eq_true rfl)
  rw [lg_entry_eq]
  generalize (lg_sl ([.ref (h 0)]) ++ List.replicate (1 - (lg_sl ([.ref (h 0)])).length) Slot.unset).toArray = ls at hl ⊢
  have hl : lv_has ls 1 [(0, .ref (h 0))] := hl
  have hinX4 : ∀ w ∈ wsX40, w ∈ wsX4_lessons := fun _ h => List.mem_cons_of_mem _ (List.mem_append_left _ (List.mem_append_right _ h))
  have hP : va_P D vwCl (zWT cI cJ h (n, L) (kt, km, kl) (pt, pm, pl) (nu, le, ow, fo, run, wc, lc, tr, cl, tm, ms) (yl, yc, yt, co, pa, su, sc) mc ++ R) s.heap := hP
  have hD : va_D (zAb B) (zWT cI cJ h (n, L) (kt, km, kl) (pt, pm, pl) (nu, le, ow, fo, run, wc, lc, tr, cl, tm, ms) (yl, yc, yt, co, pa, su, sc) mc ++ R) := hD
  refine lv_aload_n hx hb dX4_lessons_0 rfl (lv_at hl 0 rfl) ?_
  refine va_get (ci := 4) (v := .ref (h 16)) (C := RX4) (T := TX4) (N := 6) hx hb hts hinX4 hown hK hP 0 rfl rfl 4 (by decide) (hts (.fieldLink RX4 38 "TypingTutor" "past" "LTypingTutor$History;") (List.mem_of_getElem? (i := 1) rfl)) (fun _ h9 => h9) rfl dX4_lessons_1 ?_
  refine zci (zrV (As := []) (rest := []) ⟨hx, hb, hml, hown, hts⟩ (zV 16 hP hD hK hE hB hS rfl rfl) (c_X0_size  ) (cwV 0 hts gX4_lessons_X0_size rfl rfl rfl hdv_X0_size ⟨Nat.le_of_ble_eq_true rfl, Nat.le_of_ble_eq_true rfl⟩) rfl rfl hl.1 rfl (lv_room (Nat.le_of_ble_eq_true rfl)) dX4_lessons_4 ⟨Nat.le_of_ble_eq_true rfl, Nat.le_of_ble_eq_true rfl⟩) hS (fun H locs hP hD hS => ?_)
  have hP : va_P D vwCl (zWT cI cJ h (n, L) (kt, km, kl) (pt, pm, pl) (nu, le, ow, fo, run, wc, lc, tr, cl, tm, ms) (yl, yc, yt, co, pa, su, sc) mc ++ R) _ := hP
  have hD : va_D (zAb B) (zWT cI cJ h (n, L) (kt, km, kl) (pt, pm, pl) (nu, le, ow, fo, run, wc, lc, tr, cl, tm, ms) (yl, yc, yt, co, pa, su, sc) mc ++ R) := hD
  exact W.iret (v := (nI co)) hx hb hr (fun t ht hW => ⟨⟨_, (), rfl, rfl, by rw [ht]; exact hP, hD⟩, hS.F ht⟩) hS.2.2 dX4_lessons_7

set_option maxHeartbeats 1000000 in
set_option maxRecDepth 100000 in
theorem c_X4_pace {l : Launch} {B kr kp : Nat} {D : va_G} {cI cJ cZ : ClassId} {h : Nat → Nat} {R : va_W} {n : Nat} {L : Nat → Int64} {kt : Nat → Int32} {km : Nat → Int32} {kl : Nat → Int32} {pt : Nat → Int32} {pm : Nat → Int32} {pl : Nat → Int32} {nu : Nat → Int32} {le : Nat → Int32} {ow : Nat → Int32} {fo : Nat → Int32} {run : Bool} {wc : Nat} {lc : Nat} {tr : Nat} {cl : Nat} {tm : Nat} {ms : Nat} {yl : Nat → Int32} {yc : Nat → Int32} {yt : Nat → Int32} {co : Nat} {pa : Int32} {su : Nat} {sc : Nat} {mc : Nat → Int32}     : Met l yX4_pace wsX4_pace ({ frames := 1, cells := 0, slots := 0, locals := 20 }) (zPc B kr kp D (zTy cI cJ cZ) (zWT cI cJ h (n, L) (kt, km, kl) (pt, pm, pl) (nu, le, ow, fo, run, wc, lc, tr, cl, tm, ms) (yl, yc, yt, co, pa, su, sc) mc ++ R) [.ref (h 0)]) (zQi B D (zWT cI cJ h (n, L) (kt, km, kl) (pt, pm, pl) (nu, le, ow, fo, run, wc, lc, tr, cl, tm, ms) (yl, yc, yt, co, pa, su, sc) mc ++ R) pa) 0 0 (zAb B) := by
  refine Met.ofW (cc := cX4_pace) (maxL := 1) (ret := (some .int)) (by decide) rfl ?_
  intro p e s m args below meth c s₁ B0 hml hv
  obtain ⟨rfl, hP, hD, hK, hE, hB⟩ := hv
  have hx := B0.exec
  have hb := B0.bytes
  have hr := B0.returns
  have hts := atoms_spec (ws := wsX4_pace) B0.pre
  have hown : s.vm.findClass RX4 = some m.cls := findClass_of_methodNamed B0.named
  have hlocks := B0.notSynchronized
  have hA : ∀ q : Nat, s.heap.size ≤ q → zAb B q := fun q hq => Nat.le_trans hB hq
  have hS : va_S (zAb B) s.heap s.heap [] := va_S.rf
  have hgr : s.heap.size ≤ s.heap.size := Nat.le_refl _
  have hl := lv_entry ([.ref (h 0)]) (n := 1) (Nat.le_of_ble_eq_true rfl)
  rw [lg_entry_eq]
  generalize (lg_sl ([.ref (h 0)]) ++ List.replicate (1 - (lg_sl ([.ref (h 0)])).length) Slot.unset).toArray = ls at hl ⊢
  have hl : lv_has ls 1 [(0, .ref (h 0))] := hl
  have hinX4 : ∀ w ∈ wsX40, w ∈ wsX4_pace := fun _ h => List.mem_cons_of_mem _ (List.mem_append_left _ (List.mem_append_right _ h))
  have hP : va_P D vwCl (zWT cI cJ h (n, L) (kt, km, kl) (pt, pm, pl) (nu, le, ow, fo, run, wc, lc, tr, cl, tm, ms) (yl, yc, yt, co, pa, su, sc) mc ++ R) s.heap := hP
  have hD : va_D (zAb B) (zWT cI cJ h (n, L) (kt, km, kl) (pt, pm, pl) (nu, le, ow, fo, run, wc, lc, tr, cl, tm, ms) (yl, yc, yt, co, pa, su, sc) mc ++ R) := hD
  refine lv_aload_n hx hb dX4_pace_0 rfl (lv_at hl 0 rfl) ?_
  refine va_get (ci := 4) (v := .ref (h 16)) (C := RX4) (T := TX4) (N := 6) hx hb hts hinX4 hown hK hP 0 rfl rfl 4 (by decide) (hts (.fieldLink RX4 38 "TypingTutor" "past" "LTypingTutor$History;") (List.mem_of_getElem? (i := 1) rfl)) (fun _ h9 => h9) rfl dX4_pace_1 ?_
  refine zci (zrV (As := []) (rest := []) ⟨hx, hb, hml, hown, hts⟩ (zV 16 hP hD hK hE hB hS rfl rfl) (c_X0_advisedPace  ) (cwV 0 hts gX4_pace_X0_advisedPace rfl rfl rfl hdv_X0_advisedPace ⟨Nat.le_of_ble_eq_true rfl, Nat.le_of_ble_eq_true rfl⟩) rfl rfl hl.1 rfl (lv_room (Nat.le_of_ble_eq_true rfl)) dX4_pace_4 ⟨Nat.le_of_ble_eq_true rfl, Nat.le_of_ble_eq_true rfl⟩) hS (fun H locs hP hD hS => ?_)
  have hP : va_P D vwCl (zWT cI cJ h (n, L) (kt, km, kl) (pt, pm, pl) (nu, le, ow, fo, run, wc, lc, tr, cl, tm, ms) (yl, yc, yt, co, pa, su, sc) mc ++ R) _ := hP
  have hD : va_D (zAb B) (zWT cI cJ h (n, L) (kt, km, kl) (pt, pm, pl) (nu, le, ow, fo, run, wc, lc, tr, cl, tm, ms) (yl, yc, yt, co, pa, su, sc) mc ++ R) := hD
  exact W.iret (v := pa) hx hb hr (fun t ht hW => ⟨⟨_, (), rfl, rfl, by rw [ht]; exact hP, hD⟩, hS.F ht⟩) hS.2.2 dX4_pace_7

set_option maxHeartbeats 1000000 in
set_option maxRecDepth 100000 in
theorem c_X4_lesson_0 {l : Launch} {B kr kp : Nat} {D : va_G} {cI cJ cZ : ClassId} {h : Nat → Nat} {R : va_W} {n : Nat} {L : Nat → Int64} {kt : Nat → Int32} {km : Nat → Int32} {kl : Nat → Int32} {pt : Nat → Int32} {pm : Nat → Int32} {pl : Nat → Int32} {nu : Nat → Int32} {le : Nat → Int32} {ow : Nat → Int32} {fo : Nat → Int32} {run : Bool} {wc : Nat} {lc : Nat} {tr : Nat} {cl : Nat} {tm : Nat} {ms : Nat} {yl : Nat → Int32} {yc : Nat → Int32} {yt : Nat → Int32} {co : Nat} {pa : Int32} {su : Nat} {sc : Nat} {mc : Nat → Int32} {k : Nat}   (hk : k < co) (hco : co ≤ 256) : Met l yX4_lesson wsX4_lesson ({ frames := 2, cells := 0, slots := 0, locals := 43 }) (zPc B kr kp D (zTy cI cJ cZ) (zWT cI cJ h (n, L) (kt, km, kl) (pt, pm, pl) (nu, le, ow, fo, run, wc, lc, tr, cl, tm, ms) (yl, yc, yt, co, pa, su, sc) mc ++ R) [.ref (h 0), .int (nI k), .int 0]) (zQi B D (zWT cI cJ h (n, L) (kt, km, kl) (pt, pm, pl) (nu, le, ow, fo, run, wc, lc, tr, cl, tm, ms) (yl, yc, yt, co, pa, su, sc) mc ++ R) (yl k)) 0 0 (zAb B) := by
  refine Met.ofW (cc := cX4_lesson) (maxL := 3) (ret := (some .int)) (by decide) rfl ?_
  intro p e s m args below meth c s₁ B0 hml hv
  obtain ⟨rfl, hP, hD, hK, hE, hB⟩ := hv
  have hx := B0.exec
  have hb := B0.bytes
  have hr := B0.returns
  have hts := atoms_spec (ws := wsX4_lesson) B0.pre
  have hown : s.vm.findClass RX4 = some m.cls := findClass_of_methodNamed B0.named
  have hlocks := B0.notSynchronized
  have hA : ∀ q : Nat, s.heap.size ≤ q → zAb B q := fun q hq => Nat.le_trans hB hq
  have hS : va_S (zAb B) s.heap s.heap [] := va_S.rf
  have hgr : s.heap.size ≤ s.heap.size := Nat.le_refl _
  have hl := lv_entry ([.ref (h 0), .int (nI k), .int 0]) (n := 3) (Nat.le_of_ble_eq_true rfl)
  rw [lg_entry_eq]
  generalize (lg_sl ([.ref (h 0), .int (nI k), .int 0]) ++ List.replicate (3 - (lg_sl ([.ref (h 0), .int (nI k), .int 0])).length) Slot.unset).toArray = ls at hl ⊢
  have hl : lv_has ls 3 [(0, .ref (h 0)), (1, .int (nI k)), (2, .int 0)] := hl
  have hinX4 : ∀ w ∈ wsX40, w ∈ wsX4_lesson := fun _ h => List.mem_cons_of_mem _ (List.mem_append_left _ (List.mem_append_left _ (List.mem_append_right _ h)))
  have hP : va_P D vwCl (zWT cI cJ h (n, L) (kt, km, kl) (pt, pm, pl) (nu, le, ow, fo, run, wc, lc, tr, cl, tm, ms) (yl, yc, yt, co, pa, su, sc) mc ++ R) s.heap := hP
  have hD : va_D (zAb B) (zWT cI cJ h (n, L) (kt, km, kl) (pt, pm, pl) (nu, le, ow, fo, run, wc, lc, tr, cl, tm, ms) (yl, yc, yt, co, pa, su, sc) mc ++ R) := hD
  refine lv_iload_n hx hb dX4_lesson_0 rfl (lv_at hl 1 rfl) ?_
  refine lv_if_lt (tgt := 24) hx hb dX4_lesson_1 (by decide) (fun c_1 => ?_) (fun c_1 => ?_)
  · skip
    have c_1 : k < 0 := (nI_ltI (a := k) (b := 0) (by omega) (by omega)).mp c_1
    exfalso; first | omega | (revert c_1; decide) | (exact absurd rfl c_1) | simp_all
  · skip
    have c_1 : ¬ k < 0 := fun hh => c_1 ((nI_ltI (a := k) (b := 0) (by omega) (by omega)).mpr hh)
    refine lv_iload_n hx hb dX4_lesson_4 rfl (lv_at hl 1 rfl) ?_
    refine lv_aload_n hx hb dX4_lesson_5 rfl (lv_at hl 0 rfl) ?_
    refine va_get (ci := 4) (v := .ref (h 16)) (C := RX4) (T := TX4) (N := 6) hx hb hts hinX4 hown hK hP 0 rfl rfl 4 (by decide) (hts (.fieldLink RX4 38 "TypingTutor" "past" "LTypingTutor$History;") (List.mem_of_getElem? (i := 3) rfl)) (fun _ h9 => h9) rfl dX4_lesson_6 ?_
    refine zci (zrV (As := []) (rest := [.int (nI k)]) ⟨hx, hb, hml, hown, hts⟩ (zV 16 hP hD hK hE hB hS rfl rfl) (c_X0_size  ) (cwV 0 hts gX4_lesson_X0_size rfl rfl rfl hdv_X0_size ⟨Nat.le_of_ble_eq_true rfl, Nat.le_of_ble_eq_true rfl⟩) rfl rfl hl.1 rfl (lv_room (Nat.le_of_ble_eq_true rfl)) dX4_lesson_9 ⟨Nat.le_of_ble_eq_true rfl, Nat.le_of_ble_eq_true rfl⟩) hS (fun H locs hP hD hS => ?_)
    have hP : va_P D vwCl (zWT cI cJ h (n, L) (kt, km, kl) (pt, pm, pl) (nu, le, ow, fo, run, wc, lc, tr, cl, tm, ms) (yl, yc, yt, co, pa, su, sc) mc ++ R) _ := hP
    have hD : va_D (zAb B) (zWT cI cJ h (n, L) (kt, km, kl) (pt, pm, pl) (nu, le, ow, fo, run, wc, lc, tr, cl, tm, ms) (yl, yc, yt, co, pa, su, sc) mc ++ R) := hD
    refine lv_icmp_ge (tgt := 24) hx hb dX4_lesson_12 (by decide) (fun c_2 => ?_) (fun c_2 => ?_)
    · skip
      have c_2 : co ≤ k := (nI_leI (a := co) (b := k) (by omega) (by omega)).mp c_2
      exfalso; first | omega | (revert c_2; decide) | (exact absurd rfl c_2) | simp_all
    · skip
      have c_2 : ¬ co ≤ k := fun hh => c_2 ((nI_leI (a := co) (b := k) (by omega) (by omega)).mpr hh)
      refine lv_iload_n hx hb dX4_lesson_15 rfl (lv_at hl 2 rfl) ?_
      refine lv_if_lt (tgt := 24) hx hb dX4_lesson_16 (by decide) (fun c_3 => ?_) (fun c_3 => ?_)
      · skip
        exfalso; first | omega | (revert c_3; decide) | (exact absurd rfl c_3) | simp_all
      · skip
        refine lv_iload_n hx hb dX4_lesson_19 rfl (lv_at hl 2 rfl) ?_
        refine lv_iconst (v := 3) hx hb dX4_lesson_20 (by decide) ?_
        refine lv_icmp_le (tgt := 34) hx hb dX4_lesson_21 (by decide) (fun c_4 => ?_) (fun c_4 => ?_)
        · skip
          refine lv_aload_n hx hb dX4_lesson_34 rfl (lv_at hl 0 rfl) ?_
          refine va_get (ci := 4) (v := .ref (h 16)) (C := RX4) (T := TX4) (N := 6) hx hb hts hinX4 hown hK hP 0 rfl rfl 4 (by decide) (hts (.fieldLink RX4 38 "TypingTutor" "past" "LTypingTutor$History;") (List.mem_of_getElem? (i := 3) rfl)) (fun _ h9 => h9) rfl dX4_lesson_35 ?_
          refine lv_iload_n hx hb dX4_lesson_38 rfl (lv_at hl 1 rfl) ?_
          refine lv_iload_n hx hb dX4_lesson_39 rfl (lv_at hl 2 rfl) ?_
          refine zci (zrV (As := [.int (nI k), .int 0]) (rest := []) ⟨hx, hb, hml, hown, hts⟩ (zV 16 hP hD hK hE hB hS rfl rfl) (c_X0_tell_0 (k := k) (by omega)) (cwV 2 hts gX4_lesson_X0_tell rfl rfl rfl hdv_X0_tell ⟨Nat.le_of_ble_eq_true rfl, Nat.le_of_ble_eq_true rfl⟩) rfl rfl hl.1 rfl (lv_room (Nat.le_of_ble_eq_true rfl)) dX4_lesson_40 ⟨Nat.le_of_ble_eq_true rfl, Nat.le_of_ble_eq_true rfl⟩) hS (fun H locs hP hD hS => ?_)
          have hP : va_P D vwCl (zWT cI cJ h (n, L) (kt, km, kl) (pt, pm, pl) (nu, le, ow, fo, run, wc, lc, tr, cl, tm, ms) (yl, yc, yt, co, pa, su, sc) mc ++ R) _ := hP
          have hD : va_D (zAb B) (zWT cI cJ h (n, L) (kt, km, kl) (pt, pm, pl) (nu, le, ow, fo, run, wc, lc, tr, cl, tm, ms) (yl, yc, yt, co, pa, su, sc) mc ++ R) := hD
          exact W.iret (v := (yl k)) hx hb hr (fun t ht hW => ⟨⟨_, (), rfl, rfl, by rw [ht]; exact hP, hD⟩, hS.F ht⟩) hS.2.2 dX4_lesson_43
        · skip
          exfalso; first | omega | (revert c_4; decide) | (exact absurd rfl c_4) | simp_all

set_option maxHeartbeats 1000000 in
set_option maxRecDepth 100000 in
theorem c_X4_lesson_1 {l : Launch} {B kr kp : Nat} {D : va_G} {cI cJ cZ : ClassId} {h : Nat → Nat} {R : va_W} {n : Nat} {L : Nat → Int64} {kt : Nat → Int32} {km : Nat → Int32} {kl : Nat → Int32} {pt : Nat → Int32} {pm : Nat → Int32} {pl : Nat → Int32} {nu : Nat → Int32} {le : Nat → Int32} {ow : Nat → Int32} {fo : Nat → Int32} {run : Bool} {wc : Nat} {lc : Nat} {tr : Nat} {cl : Nat} {tm : Nat} {ms : Nat} {yl : Nat → Int32} {yc : Nat → Int32} {yt : Nat → Int32} {co : Nat} {pa : Int32} {su : Nat} {sc : Nat} {mc : Nat → Int32} {k : Nat}   (hk : k < co) (hco : co ≤ 256) : Met l yX4_lesson wsX4_lesson ({ frames := 2, cells := 0, slots := 0, locals := 43 }) (zPc B kr kp D (zTy cI cJ cZ) (zWT cI cJ h (n, L) (kt, km, kl) (pt, pm, pl) (nu, le, ow, fo, run, wc, lc, tr, cl, tm, ms) (yl, yc, yt, co, pa, su, sc) mc ++ R) [.ref (h 0), .int (nI k), .int 1]) (zQi B D (zWT cI cJ h (n, L) (kt, km, kl) (pt, pm, pl) (nu, le, ow, fo, run, wc, lc, tr, cl, tm, ms) (yl, yc, yt, co, pa, su, sc) mc ++ R) (yc k)) 0 0 (zAb B) := by
  refine Met.ofW (cc := cX4_lesson) (maxL := 3) (ret := (some .int)) (by decide) rfl ?_
  intro p e s m args below meth c s₁ B0 hml hv
  obtain ⟨rfl, hP, hD, hK, hE, hB⟩ := hv
  have hx := B0.exec
  have hb := B0.bytes
  have hr := B0.returns
  have hts := atoms_spec (ws := wsX4_lesson) B0.pre
  have hown : s.vm.findClass RX4 = some m.cls := findClass_of_methodNamed B0.named
  have hlocks := B0.notSynchronized
  have hA : ∀ q : Nat, s.heap.size ≤ q → zAb B q := fun q hq => Nat.le_trans hB hq
  have hS : va_S (zAb B) s.heap s.heap [] := va_S.rf
  have hgr : s.heap.size ≤ s.heap.size := Nat.le_refl _
  have hl := lv_entry ([.ref (h 0), .int (nI k), .int 1]) (n := 3) (Nat.le_of_ble_eq_true rfl)
  rw [lg_entry_eq]
  generalize (lg_sl ([.ref (h 0), .int (nI k), .int 1]) ++ List.replicate (3 - (lg_sl ([.ref (h 0), .int (nI k), .int 1])).length) Slot.unset).toArray = ls at hl ⊢
  have hl : lv_has ls 3 [(0, .ref (h 0)), (1, .int (nI k)), (2, .int 1)] := hl
  have hinX4 : ∀ w ∈ wsX40, w ∈ wsX4_lesson := fun _ h => List.mem_cons_of_mem _ (List.mem_append_left _ (List.mem_append_left _ (List.mem_append_right _ h)))
  have hP : va_P D vwCl (zWT cI cJ h (n, L) (kt, km, kl) (pt, pm, pl) (nu, le, ow, fo, run, wc, lc, tr, cl, tm, ms) (yl, yc, yt, co, pa, su, sc) mc ++ R) s.heap := hP
  have hD : va_D (zAb B) (zWT cI cJ h (n, L) (kt, km, kl) (pt, pm, pl) (nu, le, ow, fo, run, wc, lc, tr, cl, tm, ms) (yl, yc, yt, co, pa, su, sc) mc ++ R) := hD
  refine lv_iload_n hx hb dX4_lesson_0 rfl (lv_at hl 1 rfl) ?_
  refine lv_if_lt (tgt := 24) hx hb dX4_lesson_1 (by decide) (fun c_1 => ?_) (fun c_1 => ?_)
  · skip
    have c_1 : k < 0 := (nI_ltI (a := k) (b := 0) (by omega) (by omega)).mp c_1
    exfalso; first | omega | (revert c_1; decide) | (exact absurd rfl c_1) | simp_all
  · skip
    have c_1 : ¬ k < 0 := fun hh => c_1 ((nI_ltI (a := k) (b := 0) (by omega) (by omega)).mpr hh)
    refine lv_iload_n hx hb dX4_lesson_4 rfl (lv_at hl 1 rfl) ?_
    refine lv_aload_n hx hb dX4_lesson_5 rfl (lv_at hl 0 rfl) ?_
    refine va_get (ci := 4) (v := .ref (h 16)) (C := RX4) (T := TX4) (N := 6) hx hb hts hinX4 hown hK hP 0 rfl rfl 4 (by decide) (hts (.fieldLink RX4 38 "TypingTutor" "past" "LTypingTutor$History;") (List.mem_of_getElem? (i := 3) rfl)) (fun _ h9 => h9) rfl dX4_lesson_6 ?_
    refine zci (zrV (As := []) (rest := [.int (nI k)]) ⟨hx, hb, hml, hown, hts⟩ (zV 16 hP hD hK hE hB hS rfl rfl) (c_X0_size  ) (cwV 0 hts gX4_lesson_X0_size rfl rfl rfl hdv_X0_size ⟨Nat.le_of_ble_eq_true rfl, Nat.le_of_ble_eq_true rfl⟩) rfl rfl hl.1 rfl (lv_room (Nat.le_of_ble_eq_true rfl)) dX4_lesson_9 ⟨Nat.le_of_ble_eq_true rfl, Nat.le_of_ble_eq_true rfl⟩) hS (fun H locs hP hD hS => ?_)
    have hP : va_P D vwCl (zWT cI cJ h (n, L) (kt, km, kl) (pt, pm, pl) (nu, le, ow, fo, run, wc, lc, tr, cl, tm, ms) (yl, yc, yt, co, pa, su, sc) mc ++ R) _ := hP
    have hD : va_D (zAb B) (zWT cI cJ h (n, L) (kt, km, kl) (pt, pm, pl) (nu, le, ow, fo, run, wc, lc, tr, cl, tm, ms) (yl, yc, yt, co, pa, su, sc) mc ++ R) := hD
    refine lv_icmp_ge (tgt := 24) hx hb dX4_lesson_12 (by decide) (fun c_2 => ?_) (fun c_2 => ?_)
    · skip
      have c_2 : co ≤ k := (nI_leI (a := co) (b := k) (by omega) (by omega)).mp c_2
      exfalso; first | omega | (revert c_2; decide) | (exact absurd rfl c_2) | simp_all
    · skip
      have c_2 : ¬ co ≤ k := fun hh => c_2 ((nI_leI (a := co) (b := k) (by omega) (by omega)).mpr hh)
      refine lv_iload_n hx hb dX4_lesson_15 rfl (lv_at hl 2 rfl) ?_
      refine lv_if_lt (tgt := 24) hx hb dX4_lesson_16 (by decide) (fun c_3 => ?_) (fun c_3 => ?_)
      · skip
        exfalso; first | omega | (revert c_3; decide) | (exact absurd rfl c_3) | simp_all
      · skip
        refine lv_iload_n hx hb dX4_lesson_19 rfl (lv_at hl 2 rfl) ?_
        refine lv_iconst (v := 3) hx hb dX4_lesson_20 (by decide) ?_
        refine lv_icmp_le (tgt := 34) hx hb dX4_lesson_21 (by decide) (fun c_4 => ?_) (fun c_4 => ?_)
        · skip
          refine lv_aload_n hx hb dX4_lesson_34 rfl (lv_at hl 0 rfl) ?_
          refine va_get (ci := 4) (v := .ref (h 16)) (C := RX4) (T := TX4) (N := 6) hx hb hts hinX4 hown hK hP 0 rfl rfl 4 (by decide) (hts (.fieldLink RX4 38 "TypingTutor" "past" "LTypingTutor$History;") (List.mem_of_getElem? (i := 3) rfl)) (fun _ h9 => h9) rfl dX4_lesson_35 ?_
          refine lv_iload_n hx hb dX4_lesson_38 rfl (lv_at hl 1 rfl) ?_
          refine lv_iload_n hx hb dX4_lesson_39 rfl (lv_at hl 2 rfl) ?_
          refine zci (zrV (As := [.int (nI k), .int 1]) (rest := []) ⟨hx, hb, hml, hown, hts⟩ (zV 16 hP hD hK hE hB hS rfl rfl) (c_X0_tell_1 (k := k) (by omega)) (cwV 2 hts gX4_lesson_X0_tell rfl rfl rfl hdv_X0_tell ⟨Nat.le_of_ble_eq_true rfl, Nat.le_of_ble_eq_true rfl⟩) rfl rfl hl.1 rfl (lv_room (Nat.le_of_ble_eq_true rfl)) dX4_lesson_40 ⟨Nat.le_of_ble_eq_true rfl, Nat.le_of_ble_eq_true rfl⟩) hS (fun H locs hP hD hS => ?_)
          have hP : va_P D vwCl (zWT cI cJ h (n, L) (kt, km, kl) (pt, pm, pl) (nu, le, ow, fo, run, wc, lc, tr, cl, tm, ms) (yl, yc, yt, co, pa, su, sc) mc ++ R) _ := hP
          have hD : va_D (zAb B) (zWT cI cJ h (n, L) (kt, km, kl) (pt, pm, pl) (nu, le, ow, fo, run, wc, lc, tr, cl, tm, ms) (yl, yc, yt, co, pa, su, sc) mc ++ R) := hD
          exact W.iret (v := (yc k)) hx hb hr (fun t ht hW => ⟨⟨_, (), rfl, rfl, by rw [ht]; exact hP, hD⟩, hS.F ht⟩) hS.2.2 dX4_lesson_43
        · skip
          exfalso; first | omega | (revert c_4; decide) | (exact absurd rfl c_4) | simp_all

set_option maxHeartbeats 1000000 in
set_option maxRecDepth 100000 in
theorem c_X4_lesson_2 {l : Launch} {B kr kp : Nat} {D : va_G} {cI cJ cZ : ClassId} {h : Nat → Nat} {R : va_W} {n : Nat} {L : Nat → Int64} {kt : Nat → Int32} {km : Nat → Int32} {kl : Nat → Int32} {pt : Nat → Int32} {pm : Nat → Int32} {pl : Nat → Int32} {nu : Nat → Int32} {le : Nat → Int32} {ow : Nat → Int32} {fo : Nat → Int32} {run : Bool} {wc : Nat} {lc : Nat} {tr : Nat} {cl : Nat} {tm : Nat} {ms : Nat} {yl : Nat → Int32} {yc : Nat → Int32} {yt : Nat → Int32} {co : Nat} {pa : Int32} {su : Nat} {sc : Nat} {mc : Nat → Int32} {k : Nat}   (hk : k < co) (hco : co ≤ 256) : Met l yX4_lesson wsX4_lesson ({ frames := 2, cells := 0, slots := 0, locals := 43 }) (zPc B kr kp D (zTy cI cJ cZ) (zWT cI cJ h (n, L) (kt, km, kl) (pt, pm, pl) (nu, le, ow, fo, run, wc, lc, tr, cl, tm, ms) (yl, yc, yt, co, pa, su, sc) mc ++ R) [.ref (h 0), .int (nI k), .int 2]) (zQi B D (zWT cI cJ h (n, L) (kt, km, kl) (pt, pm, pl) (nu, le, ow, fo, run, wc, lc, tr, cl, tm, ms) (yl, yc, yt, co, pa, su, sc) mc ++ R) (yt k)) 0 0 (zAb B) := by
  refine Met.ofW (cc := cX4_lesson) (maxL := 3) (ret := (some .int)) (by decide) rfl ?_
  intro p e s m args below meth c s₁ B0 hml hv
  obtain ⟨rfl, hP, hD, hK, hE, hB⟩ := hv
  have hx := B0.exec
  have hb := B0.bytes
  have hr := B0.returns
  have hts := atoms_spec (ws := wsX4_lesson) B0.pre
  have hown : s.vm.findClass RX4 = some m.cls := findClass_of_methodNamed B0.named
  have hlocks := B0.notSynchronized
  have hA : ∀ q : Nat, s.heap.size ≤ q → zAb B q := fun q hq => Nat.le_trans hB hq
  have hS : va_S (zAb B) s.heap s.heap [] := va_S.rf
  have hgr : s.heap.size ≤ s.heap.size := Nat.le_refl _
  have hl := lv_entry ([.ref (h 0), .int (nI k), .int 2]) (n := 3) (Nat.le_of_ble_eq_true rfl)
  rw [lg_entry_eq]
  generalize (lg_sl ([.ref (h 0), .int (nI k), .int 2]) ++ List.replicate (3 - (lg_sl ([.ref (h 0), .int (nI k), .int 2])).length) Slot.unset).toArray = ls at hl ⊢
  have hl : lv_has ls 3 [(0, .ref (h 0)), (1, .int (nI k)), (2, .int 2)] := hl
  have hinX4 : ∀ w ∈ wsX40, w ∈ wsX4_lesson := fun _ h => List.mem_cons_of_mem _ (List.mem_append_left _ (List.mem_append_left _ (List.mem_append_right _ h)))
  have hP : va_P D vwCl (zWT cI cJ h (n, L) (kt, km, kl) (pt, pm, pl) (nu, le, ow, fo, run, wc, lc, tr, cl, tm, ms) (yl, yc, yt, co, pa, su, sc) mc ++ R) s.heap := hP
  have hD : va_D (zAb B) (zWT cI cJ h (n, L) (kt, km, kl) (pt, pm, pl) (nu, le, ow, fo, run, wc, lc, tr, cl, tm, ms) (yl, yc, yt, co, pa, su, sc) mc ++ R) := hD
  refine lv_iload_n hx hb dX4_lesson_0 rfl (lv_at hl 1 rfl) ?_
  refine lv_if_lt (tgt := 24) hx hb dX4_lesson_1 (by decide) (fun c_1 => ?_) (fun c_1 => ?_)
  · skip
    have c_1 : k < 0 := (nI_ltI (a := k) (b := 0) (by omega) (by omega)).mp c_1
    exfalso; first | omega | (revert c_1; decide) | (exact absurd rfl c_1) | simp_all
  · skip
    have c_1 : ¬ k < 0 := fun hh => c_1 ((nI_ltI (a := k) (b := 0) (by omega) (by omega)).mpr hh)
    refine lv_iload_n hx hb dX4_lesson_4 rfl (lv_at hl 1 rfl) ?_
    refine lv_aload_n hx hb dX4_lesson_5 rfl (lv_at hl 0 rfl) ?_
    refine va_get (ci := 4) (v := .ref (h 16)) (C := RX4) (T := TX4) (N := 6) hx hb hts hinX4 hown hK hP 0 rfl rfl 4 (by decide) (hts (.fieldLink RX4 38 "TypingTutor" "past" "LTypingTutor$History;") (List.mem_of_getElem? (i := 3) rfl)) (fun _ h9 => h9) rfl dX4_lesson_6 ?_
    refine zci (zrV (As := []) (rest := [.int (nI k)]) ⟨hx, hb, hml, hown, hts⟩ (zV 16 hP hD hK hE hB hS rfl rfl) (c_X0_size  ) (cwV 0 hts gX4_lesson_X0_size rfl rfl rfl hdv_X0_size ⟨Nat.le_of_ble_eq_true rfl, Nat.le_of_ble_eq_true rfl⟩) rfl rfl hl.1 rfl (lv_room (Nat.le_of_ble_eq_true rfl)) dX4_lesson_9 ⟨Nat.le_of_ble_eq_true rfl, Nat.le_of_ble_eq_true rfl⟩) hS (fun H locs hP hD hS => ?_)
    have hP : va_P D vwCl (zWT cI cJ h (n, L) (kt, km, kl) (pt, pm, pl) (nu, le, ow, fo, run, wc, lc, tr, cl, tm, ms) (yl, yc, yt, co, pa, su, sc) mc ++ R) _ := hP
    have hD : va_D (zAb B) (zWT cI cJ h (n, L) (kt, km, kl) (pt, pm, pl) (nu, le, ow, fo, run, wc, lc, tr, cl, tm, ms) (yl, yc, yt, co, pa, su, sc) mc ++ R) := hD
    refine lv_icmp_ge (tgt := 24) hx hb dX4_lesson_12 (by decide) (fun c_2 => ?_) (fun c_2 => ?_)
    · skip
      have c_2 : co ≤ k := (nI_leI (a := co) (b := k) (by omega) (by omega)).mp c_2
      exfalso; first | omega | (revert c_2; decide) | (exact absurd rfl c_2) | simp_all
    · skip
      have c_2 : ¬ co ≤ k := fun hh => c_2 ((nI_leI (a := co) (b := k) (by omega) (by omega)).mpr hh)
      refine lv_iload_n hx hb dX4_lesson_15 rfl (lv_at hl 2 rfl) ?_
      refine lv_if_lt (tgt := 24) hx hb dX4_lesson_16 (by decide) (fun c_3 => ?_) (fun c_3 => ?_)
      · skip
        exfalso; first | omega | (revert c_3; decide) | (exact absurd rfl c_3) | simp_all
      · skip
        refine lv_iload_n hx hb dX4_lesson_19 rfl (lv_at hl 2 rfl) ?_
        refine lv_iconst (v := 3) hx hb dX4_lesson_20 (by decide) ?_
        refine lv_icmp_le (tgt := 34) hx hb dX4_lesson_21 (by decide) (fun c_4 => ?_) (fun c_4 => ?_)
        · skip
          refine lv_aload_n hx hb dX4_lesson_34 rfl (lv_at hl 0 rfl) ?_
          refine va_get (ci := 4) (v := .ref (h 16)) (C := RX4) (T := TX4) (N := 6) hx hb hts hinX4 hown hK hP 0 rfl rfl 4 (by decide) (hts (.fieldLink RX4 38 "TypingTutor" "past" "LTypingTutor$History;") (List.mem_of_getElem? (i := 3) rfl)) (fun _ h9 => h9) rfl dX4_lesson_35 ?_
          refine lv_iload_n hx hb dX4_lesson_38 rfl (lv_at hl 1 rfl) ?_
          refine lv_iload_n hx hb dX4_lesson_39 rfl (lv_at hl 2 rfl) ?_
          refine zci (zrV (As := [.int (nI k), .int 2]) (rest := []) ⟨hx, hb, hml, hown, hts⟩ (zV 16 hP hD hK hE hB hS rfl rfl) (c_X0_tell_2 (k := k) (by omega)) (cwV 2 hts gX4_lesson_X0_tell rfl rfl rfl hdv_X0_tell ⟨Nat.le_of_ble_eq_true rfl, Nat.le_of_ble_eq_true rfl⟩) rfl rfl hl.1 rfl (lv_room (Nat.le_of_ble_eq_true rfl)) dX4_lesson_40 ⟨Nat.le_of_ble_eq_true rfl, Nat.le_of_ble_eq_true rfl⟩) hS (fun H locs hP hD hS => ?_)
          have hP : va_P D vwCl (zWT cI cJ h (n, L) (kt, km, kl) (pt, pm, pl) (nu, le, ow, fo, run, wc, lc, tr, cl, tm, ms) (yl, yc, yt, co, pa, su, sc) mc ++ R) _ := hP
          have hD : va_D (zAb B) (zWT cI cJ h (n, L) (kt, km, kl) (pt, pm, pl) (nu, le, ow, fo, run, wc, lc, tr, cl, tm, ms) (yl, yc, yt, co, pa, su, sc) mc ++ R) := hD
          exact W.iret (v := (yt k)) hx hb hr (fun t ht hW => ⟨⟨_, (), rfl, rfl, by rw [ht]; exact hP, hD⟩, hS.F ht⟩) hS.2.2 dX4_lesson_43
        · skip
          exfalso; first | omega | (revert c_4; decide) | (exact absurd rfl c_4) | simp_all

set_option maxHeartbeats 1000000 in
set_option maxRecDepth 100000 in
theorem c_X4_lesson_3 {l : Launch} {B kr kp : Nat} {D : va_G} {cI cJ cZ : ClassId} {h : Nat → Nat} {R : va_W} {n : Nat} {L : Nat → Int64} {kt : Nat → Int32} {km : Nat → Int32} {kl : Nat → Int32} {pt : Nat → Int32} {pm : Nat → Int32} {pl : Nat → Int32} {nu : Nat → Int32} {le : Nat → Int32} {ow : Nat → Int32} {fo : Nat → Int32} {run : Bool} {wc : Nat} {lc : Nat} {tr : Nat} {cl : Nat} {tm : Nat} {ms : Nat} {yl : Nat → Int32} {yc : Nat → Int32} {yt : Nat → Int32} {co : Nat} {pa : Int32} {su : Nat} {sc : Nat} {mc : Nat → Int32} {k : Nat}   (hk : k < co) (hco : co ≤ 256) : Met l yX4_lesson wsX4_lesson ({ frames := 3, cells := 0, slots := 0, locals := 65 }) (zPc B kr kp D (zTy cI cJ cZ) (zWT cI cJ h (n, L) (kt, km, kl) (pt, pm, pl) (nu, le, ow, fo, run, wc, lc, tr, cl, tm, ms) (yl, yc, yt, co, pa, su, sc) mc ++ R) [.ref (h 0), .int (nI k), .int 3]) (zQi B D (zWT cI cJ h (n, L) (kt, km, kl) (pt, pm, pl) (nu, le, ow, fo, run, wc, lc, tr, cl, tm, ms) (yl, yc, yt, co, pa, su, sc) mc ++ R) (zsp yl yt k)) 0 0 (zAb B) := by
  refine Met.ofW (cc := cX4_lesson) (maxL := 3) (ret := (some .int)) (by decide) rfl ?_
  intro p e s m args below meth c s₁ B0 hml hv
  obtain ⟨rfl, hP, hD, hK, hE, hB⟩ := hv
  have hx := B0.exec
  have hb := B0.bytes
  have hr := B0.returns
  have hts := atoms_spec (ws := wsX4_lesson) B0.pre
  have hown : s.vm.findClass RX4 = some m.cls := findClass_of_methodNamed B0.named
  have hlocks := B0.notSynchronized
  have hA : ∀ q : Nat, s.heap.size ≤ q → zAb B q := fun q hq => Nat.le_trans hB hq
  have hS : va_S (zAb B) s.heap s.heap [] := va_S.rf
  have hgr : s.heap.size ≤ s.heap.size := Nat.le_refl _
  have hl := lv_entry ([.ref (h 0), .int (nI k), .int 3]) (n := 3) (Nat.le_of_ble_eq_true rfl)
  rw [lg_entry_eq]
  generalize (lg_sl ([.ref (h 0), .int (nI k), .int 3]) ++ List.replicate (3 - (lg_sl ([.ref (h 0), .int (nI k), .int 3])).length) Slot.unset).toArray = ls at hl ⊢
  have hl : lv_has ls 3 [(0, .ref (h 0)), (1, .int (nI k)), (2, .int 3)] := hl
  have hinX4 : ∀ w ∈ wsX40, w ∈ wsX4_lesson := fun _ h => List.mem_cons_of_mem _ (List.mem_append_left _ (List.mem_append_left _ (List.mem_append_right _ h)))
  have hP : va_P D vwCl (zWT cI cJ h (n, L) (kt, km, kl) (pt, pm, pl) (nu, le, ow, fo, run, wc, lc, tr, cl, tm, ms) (yl, yc, yt, co, pa, su, sc) mc ++ R) s.heap := hP
  have hD : va_D (zAb B) (zWT cI cJ h (n, L) (kt, km, kl) (pt, pm, pl) (nu, le, ow, fo, run, wc, lc, tr, cl, tm, ms) (yl, yc, yt, co, pa, su, sc) mc ++ R) := hD
  refine lv_iload_n hx hb dX4_lesson_0 rfl (lv_at hl 1 rfl) ?_
  refine lv_if_lt (tgt := 24) hx hb dX4_lesson_1 (by decide) (fun c_1 => ?_) (fun c_1 => ?_)
  · skip
    have c_1 : k < 0 := (nI_ltI (a := k) (b := 0) (by omega) (by omega)).mp c_1
    exfalso; first | omega | (revert c_1; decide) | (exact absurd rfl c_1) | simp_all
  · skip
    have c_1 : ¬ k < 0 := fun hh => c_1 ((nI_ltI (a := k) (b := 0) (by omega) (by omega)).mpr hh)
    refine lv_iload_n hx hb dX4_lesson_4 rfl (lv_at hl 1 rfl) ?_
    refine lv_aload_n hx hb dX4_lesson_5 rfl (lv_at hl 0 rfl) ?_
    refine va_get (ci := 4) (v := .ref (h 16)) (C := RX4) (T := TX4) (N := 6) hx hb hts hinX4 hown hK hP 0 rfl rfl 4 (by decide) (hts (.fieldLink RX4 38 "TypingTutor" "past" "LTypingTutor$History;") (List.mem_of_getElem? (i := 3) rfl)) (fun _ h9 => h9) rfl dX4_lesson_6 ?_
    refine zci (zrV (As := []) (rest := [.int (nI k)]) ⟨hx, hb, hml, hown, hts⟩ (zV 16 hP hD hK hE hB hS rfl rfl) (c_X0_size  ) (cwV 0 hts gX4_lesson_X0_size rfl rfl rfl hdv_X0_size ⟨Nat.le_of_ble_eq_true rfl, Nat.le_of_ble_eq_true rfl⟩) rfl rfl hl.1 rfl (lv_room (Nat.le_of_ble_eq_true rfl)) dX4_lesson_9 ⟨Nat.le_of_ble_eq_true rfl, Nat.le_of_ble_eq_true rfl⟩) hS (fun H locs hP hD hS => ?_)
    have hP : va_P D vwCl (zWT cI cJ h (n, L) (kt, km, kl) (pt, pm, pl) (nu, le, ow, fo, run, wc, lc, tr, cl, tm, ms) (yl, yc, yt, co, pa, su, sc) mc ++ R) _ := hP
    have hD : va_D (zAb B) (zWT cI cJ h (n, L) (kt, km, kl) (pt, pm, pl) (nu, le, ow, fo, run, wc, lc, tr, cl, tm, ms) (yl, yc, yt, co, pa, su, sc) mc ++ R) := hD
    refine lv_icmp_ge (tgt := 24) hx hb dX4_lesson_12 (by decide) (fun c_2 => ?_) (fun c_2 => ?_)
    · skip
      have c_2 : co ≤ k := (nI_leI (a := co) (b := k) (by omega) (by omega)).mp c_2
      exfalso; first | omega | (revert c_2; decide) | (exact absurd rfl c_2) | simp_all
    · skip
      have c_2 : ¬ co ≤ k := fun hh => c_2 ((nI_leI (a := co) (b := k) (by omega) (by omega)).mpr hh)
      refine lv_iload_n hx hb dX4_lesson_15 rfl (lv_at hl 2 rfl) ?_
      refine lv_if_lt (tgt := 24) hx hb dX4_lesson_16 (by decide) (fun c_3 => ?_) (fun c_3 => ?_)
      · skip
        exfalso; first | omega | (revert c_3; decide) | (exact absurd rfl c_3) | simp_all
      · skip
        refine lv_iload_n hx hb dX4_lesson_19 rfl (lv_at hl 2 rfl) ?_
        refine lv_iconst (v := 3) hx hb dX4_lesson_20 (by decide) ?_
        refine lv_icmp_le (tgt := 34) hx hb dX4_lesson_21 (by decide) (fun c_4 => ?_) (fun c_4 => ?_)
        · skip
          refine lv_aload_n hx hb dX4_lesson_34 rfl (lv_at hl 0 rfl) ?_
          refine va_get (ci := 4) (v := .ref (h 16)) (C := RX4) (T := TX4) (N := 6) hx hb hts hinX4 hown hK hP 0 rfl rfl 4 (by decide) (hts (.fieldLink RX4 38 "TypingTutor" "past" "LTypingTutor$History;") (List.mem_of_getElem? (i := 3) rfl)) (fun _ h9 => h9) rfl dX4_lesson_35 ?_
          refine lv_iload_n hx hb dX4_lesson_38 rfl (lv_at hl 1 rfl) ?_
          refine lv_iload_n hx hb dX4_lesson_39 rfl (lv_at hl 2 rfl) ?_
          refine zci (zrV (As := [.int (nI k), .int 3]) (rest := []) ⟨hx, hb, hml, hown, hts⟩ (zV 16 hP hD hK hE hB hS rfl rfl) (c_X0_tell_3 (k := k) (by omega)) (cwV 2 hts gX4_lesson_X0_tell rfl rfl rfl hdv_X0_tell ⟨Nat.le_of_ble_eq_true rfl, Nat.le_of_ble_eq_true rfl⟩) rfl rfl hl.1 rfl (lv_room (Nat.le_of_ble_eq_true rfl)) dX4_lesson_40 ⟨Nat.le_of_ble_eq_true rfl, Nat.le_of_ble_eq_true rfl⟩) hS (fun H locs hP hD hS => ?_)
          have hP : va_P D vwCl (zWT cI cJ h (n, L) (kt, km, kl) (pt, pm, pl) (nu, le, ow, fo, run, wc, lc, tr, cl, tm, ms) (yl, yc, yt, co, pa, su, sc) mc ++ R) _ := hP
          have hD : va_D (zAb B) (zWT cI cJ h (n, L) (kt, km, kl) (pt, pm, pl) (nu, le, ow, fo, run, wc, lc, tr, cl, tm, ms) (yl, yc, yt, co, pa, su, sc) mc ++ R) := hD
          exact W.iret (v := (zsp yl yt k)) hx hb hr (fun t ht hW => ⟨⟨_, (), rfl, rfl, by rw [ht]; exact hP, hD⟩, hS.F ht⟩) hS.2.2 dX4_lesson_43
        · skip
          exfalso; first | omega | (revert c_4; decide) | (exact absurd rfl c_4) | simp_all

set_option maxHeartbeats 1000000 in
set_option maxRecDepth 100000 in
theorem c_X4_lesson_x {l : Launch} {B kr kp : Nat} {D : va_G} {cI cJ cZ : ClassId} {h : Nat → Nat} {R : va_W} {n : Nat} {L : Nat → Int64} {kt : Nat → Int32} {km : Nat → Int32} {kl : Nat → Int32} {pt : Nat → Int32} {pm : Nat → Int32} {pl : Nat → Int32} {nu : Nat → Int32} {le : Nat → Int32} {ow : Nat → Int32} {fo : Nat → Int32} {run : Bool} {wc : Nat} {lc : Nat} {tr : Nat} {cl : Nat} {tm : Nat} {ms : Nat} {yl : Nat → Int32} {yc : Nat → Int32} {yt : Nat → Int32} {co : Nat} {pa : Int32} {su : Nat} {sc : Nat} {mc : Nat → Int32} {i : Int32} {j : Int32}   (hls : l.stackTraces = false) (h1 : ¬ (¬ i < 0 ∧ ¬ nI co ≤ i ∧ ¬ j < 0 ∧ j ≤ 3)) : vx_Met l yX4_lesson wsX4_lesson ({ frames := 6, cells := 1, slots := 6, locals := 82 }) (zPc B kr kp D (zTy cI cJ cZ) (zWT cI cJ h (n, L) (kt, km, kl) (pt, pm, pl) (nu, le, ow, fo, run, wc, lc, tr, cl, tm, ms) (yl, yc, yt, co, pa, su, sc) mc ++ R) [.ref (h 0), .int i, .int j]) (zQxi B D (zWT cI cJ h (n, L) (kt, km, kl) (pt, pm, pl) (nu, le, ow, fo, run, wc, lc, tr, cl, tm, ms) (yl, yc, yt, co, pa, su, sc) mc ++ R)) (zXC "java/lang/IndexOutOfBoundsException" B D (zWT cI cJ h (n, L) (kt, km, kl) (pt, pm, pl) (nu, le, ow, fo, run, wc, lc, tr, cl, tm, ms) (yl, yc, yt, co, pa, su, sc) mc ++ R)) 1 6 (zAb B) := by
  refine vx_ofW (cc := cX4_lesson) (maxL := 3) (ret := (some .int)) (by decide) rfl ?_
  intro p e s m args below meth c s₁ B0 hml ht9 hv
  obtain ⟨rfl, hP, hD, hK, hE, hB⟩ := hv
  have hx := B0.exec
  have hb := B0.bytes
  have hr := B0.returns
  have hts := atoms_spec (ws := wsX4_lesson) B0.pre
  have hown : s.vm.findClass RX4 = some m.cls := findClass_of_methodNamed B0.named
  have hlocks := B0.notSynchronized
  have hA : ∀ q : Nat, s.heap.size ≤ q → zAb B q := fun q hq => Nat.le_trans hB hq
  have hS : va_S (zAb B) s.heap s.heap [] := va_S.rf
  have hgr : s.heap.size ≤ s.heap.size := Nat.le_refl _
  have hl := lv_entry ([.ref (h 0), .int i, .int j]) (n := 3) (Nat.le_of_ble_eq_true rfl)
  rw [lg_entry_eq]
  generalize (lg_sl ([.ref (h 0), .int i, .int j]) ++ List.replicate (3 - (lg_sl ([.ref (h 0), .int i, .int j])).length) Slot.unset).toArray = ls at hl ⊢
  have hl : lv_has ls 3 [(0, .ref (h 0)), (1, .int i), (2, .int j)] := hl
  have hinX4 : ∀ w ∈ wsX40, w ∈ wsX4_lesson := fun _ h => List.mem_cons_of_mem _ (List.mem_append_left _ (List.mem_append_left _ (List.mem_append_right _ h)))
  have hP : va_P D vwCl (zWT cI cJ h (n, L) (kt, km, kl) (pt, pm, pl) (nu, le, ow, fo, run, wc, lc, tr, cl, tm, ms) (yl, yc, yt, co, pa, su, sc) mc ++ R) s.heap := hP
  have hD : va_D (zAb B) (zWT cI cJ h (n, L) (kt, km, kl) (pt, pm, pl) (nu, le, ow, fo, run, wc, lc, tr, cl, tm, ms) (yl, yc, yt, co, pa, su, sc) mc ++ R) := hD
  refine lv_iload_n hx hb dX4_lesson_0 rfl (lv_at hl 1 rfl) ?_
  refine lv_if_lt (tgt := 24) hx hb dX4_lesson_1 (by decide) (fun c_1 => ?_) (fun c_1 => ?_)
  · skip
    exact zthrow hx hb hls hown hE hP hD hS (hl.1.trans hml.symm) ht9 hlocks (by decide +kernel) (List.mem_of_getElem? (i := 13) rfl) (by decide +kernel) (hts (.classLink RX4 81 "java/lang/IndexOutOfBoundsException") (List.mem_of_getElem? (i := 1) rfl)) (hts (.initialized "java/lang/IndexOutOfBoundsException") (List.mem_of_getElem? (i := 2) rfl)) (fun w h9 => hts w (List.mem_cons_of_mem _ (List.mem_append_right _ h9))) (by decide +kernel) (by decide +kernel) dX4_lesson_24 dX4_lesson_27 dX4_lesson_28 dX4_lesson_30 dX4_lesson_33 ⟨Nat.le_of_ble_eq_true rfl, Nat.le_of_ble_eq_true rfl, Nat.le_of_ble_eq_true rfl, Nat.le_of_ble_eq_true rfl⟩
  · skip
    refine lv_iload_n hx hb dX4_lesson_4 rfl (lv_at hl 1 rfl) ?_
    refine lv_aload_n hx hb dX4_lesson_5 rfl (lv_at hl 0 rfl) ?_
    refine va_get (ci := 4) (v := .ref (h 16)) (C := RX4) (T := TX4) (N := 6) hx hb hts hinX4 hown hK hP 0 rfl rfl 4 (by decide) (hts (.fieldLink RX4 38 "TypingTutor" "past" "LTypingTutor$History;") (List.mem_of_getElem? (i := 3) rfl)) (fun _ h9 => h9) rfl dX4_lesson_6 ?_
    refine zci (zrV (As := []) (rest := [.int i]) ⟨hx, hb, hml, hown, hts⟩ (zV 16 hP hD hK hE hB hS rfl rfl) (c_X0_size  ) (cwV 0 hts gX4_lesson_X0_size rfl rfl rfl hdv_X0_size ⟨Nat.le_of_ble_eq_true rfl, Nat.le_of_ble_eq_true rfl⟩) rfl rfl hl.1 rfl (lv_room (Nat.le_of_ble_eq_true rfl)) dX4_lesson_9 ⟨Nat.le_of_ble_eq_true rfl, Nat.le_of_ble_eq_true rfl⟩) hS (fun H locs hP hD hS => ?_)
    have hP : va_P D vwCl (zWT cI cJ h (n, L) (kt, km, kl) (pt, pm, pl) (nu, le, ow, fo, run, wc, lc, tr, cl, tm, ms) (yl, yc, yt, co, pa, su, sc) mc ++ R) _ := hP
    have hD : va_D (zAb B) (zWT cI cJ h (n, L) (kt, km, kl) (pt, pm, pl) (nu, le, ow, fo, run, wc, lc, tr, cl, tm, ms) (yl, yc, yt, co, pa, su, sc) mc ++ R) := hD
    refine lv_icmp_ge (tgt := 24) hx hb dX4_lesson_12 (by decide) (fun c_2 => ?_) (fun c_2 => ?_)
    · skip
      exact zthrow hx hb hls hown hE hP hD hS (hl.1.trans hml.symm) ht9 hlocks (by decide +kernel) (List.mem_of_getElem? (i := 13) rfl) (by decide +kernel) (hts (.classLink RX4 81 "java/lang/IndexOutOfBoundsException") (List.mem_of_getElem? (i := 1) rfl)) (hts (.initialized "java/lang/IndexOutOfBoundsException") (List.mem_of_getElem? (i := 2) rfl)) (fun w h9 => hts w (List.mem_cons_of_mem _ (List.mem_append_right _ h9))) (by decide +kernel) (by decide +kernel) dX4_lesson_24 dX4_lesson_27 dX4_lesson_28 dX4_lesson_30 dX4_lesson_33 ⟨Nat.le_of_ble_eq_true rfl, Nat.le_of_ble_eq_true rfl, Nat.le_of_ble_eq_true rfl, Nat.le_of_ble_eq_true rfl⟩
    · skip
      refine lv_iload_n hx hb dX4_lesson_15 rfl (lv_at hl 2 rfl) ?_
      refine lv_if_lt (tgt := 24) hx hb dX4_lesson_16 (by decide) (fun c_3 => ?_) (fun c_3 => ?_)
      · skip
        exact zthrow hx hb hls hown hE hP hD hS (hl.1.trans hml.symm) ht9 hlocks (by decide +kernel) (List.mem_of_getElem? (i := 13) rfl) (by decide +kernel) (hts (.classLink RX4 81 "java/lang/IndexOutOfBoundsException") (List.mem_of_getElem? (i := 1) rfl)) (hts (.initialized "java/lang/IndexOutOfBoundsException") (List.mem_of_getElem? (i := 2) rfl)) (fun w h9 => hts w (List.mem_cons_of_mem _ (List.mem_append_right _ h9))) (by decide +kernel) (by decide +kernel) dX4_lesson_24 dX4_lesson_27 dX4_lesson_28 dX4_lesson_30 dX4_lesson_33 ⟨Nat.le_of_ble_eq_true rfl, Nat.le_of_ble_eq_true rfl, Nat.le_of_ble_eq_true rfl, Nat.le_of_ble_eq_true rfl⟩
      · skip
        refine lv_iload_n hx hb dX4_lesson_19 rfl (lv_at hl 2 rfl) ?_
        refine lv_iconst (v := 3) hx hb dX4_lesson_20 (by decide) ?_
        refine lv_icmp_le (tgt := 34) hx hb dX4_lesson_21 (by decide) (fun c_4 => ?_) (fun c_4 => ?_)
        · skip
          exact absurd ⟨c_1, c_2, c_3, c_4⟩ h1
        · skip
          exact zthrow hx hb hls hown hE hP hD hS (hl.1.trans hml.symm) ht9 hlocks (by decide +kernel) (List.mem_of_getElem? (i := 13) rfl) (by decide +kernel) (hts (.classLink RX4 81 "java/lang/IndexOutOfBoundsException") (List.mem_of_getElem? (i := 1) rfl)) (hts (.initialized "java/lang/IndexOutOfBoundsException") (List.mem_of_getElem? (i := 2) rfl)) (fun w h9 => hts w (List.mem_cons_of_mem _ (List.mem_append_right _ h9))) (by decide +kernel) (by decide +kernel) dX4_lesson_24 dX4_lesson_27 dX4_lesson_28 dX4_lesson_30 dX4_lesson_33 ⟨Nat.le_of_ble_eq_true rfl, Nat.le_of_ble_eq_true rfl, Nat.le_of_ble_eq_true rfl, Nat.le_of_ble_eq_true rfl⟩

set_option maxHeartbeats 1000000 in
set_option maxRecDepth 100000 in
theorem c_X4_isPlateau {l : Launch} {B kr kp : Nat} {D : va_G} {cI cJ cZ : ClassId} {h : Nat → Nat} {R : va_W} {n : Nat} {L : Nat → Int64} {kt : Nat → Int32} {km : Nat → Int32} {kl : Nat → Int32} {pt : Nat → Int32} {pm : Nat → Int32} {pl : Nat → Int32} {nu : Nat → Int32} {le : Nat → Int32} {ow : Nat → Int32} {fo : Nat → Int32} {run : Bool} {wc : Nat} {lc : Nat} {tr : Nat} {cl : Nat} {tm : Nat} {ms : Nat} {yl : Nat → Int32} {yc : Nat → Int32} {yt : Nat → Int32} {co : Nat} {pa : Int32} {su : Nat} {sc : Nat} {mc : Nat → Int32}    (hco : co ≤ 256) : Met l yX4_isPlateau wsX4_isPlateau ({ frames := 3, cells := 0, slots := 0, locals := 67 }) (zPc B kr kp D (zTy cI cJ cZ) (zWT cI cJ h (n, L) (kt, km, kl) (pt, pm, pl) (nu, le, ow, fo, run, wc, lc, tr, cl, tm, ms) (yl, yc, yt, co, pa, su, sc) mc ++ R) [.ref (h 0)]) (zQi B D (zWT cI cJ h (n, L) (kt, km, kl) (pt, pm, pl) (nu, le, ow, fo, run, wc, lc, tr, cl, tm, ms) (yl, yc, yt, co, pa, su, sc) mc ++ R) (zb (zpl yl yt co))) 0 0 (zAb B) := by
  refine Met.ofW (cc := cX4_isPlateau) (maxL := 4) (ret := (some .boolean)) (by decide) rfl ?_
  intro p e s m args below meth c s₁ B0 hml hv
  obtain ⟨rfl, hP, hD, hK, hE, hB⟩ := hv
  have hx := B0.exec
  have hb := B0.bytes
  have hr := B0.returns
  have hts := atoms_spec (ws := wsX4_isPlateau) B0.pre
  have hown : s.vm.findClass RX4 = some m.cls := findClass_of_methodNamed B0.named
  have hlocks := B0.notSynchronized
  have hA : ∀ q : Nat, s.heap.size ≤ q → zAb B q := fun q hq => Nat.le_trans hB hq
  have hS : va_S (zAb B) s.heap s.heap [] := va_S.rf
  have hgr : s.heap.size ≤ s.heap.size := Nat.le_refl _
  have hl := lv_entry ([.ref (h 0)]) (n := 4) (Nat.le_of_ble_eq_true rfl)
  rw [lg_entry_eq]
  generalize (lg_sl ([.ref (h 0)]) ++ List.replicate (4 - (lg_sl ([.ref (h 0)])).length) Slot.unset).toArray = ls at hl ⊢
  have hl : lv_has ls 4 [(0, .ref (h 0))] := hl
  have hinX4 : ∀ w ∈ wsX40, w ∈ wsX4_isPlateau := fun _ h => List.mem_cons_of_mem _ (List.mem_append_left _ (List.mem_append_right _ h))
  have hP : va_P D vwCl (zWT cI cJ h (n, L) (kt, km, kl) (pt, pm, pl) (nu, le, ow, fo, run, wc, lc, tr, cl, tm, ms) (yl, yc, yt, co, pa, su, sc) mc ++ R) s.heap := hP
  have hD : va_D (zAb B) (zWT cI cJ h (n, L) (kt, km, kl) (pt, pm, pl) (nu, le, ow, fo, run, wc, lc, tr, cl, tm, ms) (yl, yc, yt, co, pa, su, sc) mc ++ R) := hD
  refine lv_aload_n hx hb dX4_isPlateau_0 rfl (lv_at hl 0 rfl) ?_
  refine va_get (ci := 4) (v := .ref (h 16)) (C := RX4) (T := TX4) (N := 6) hx hb hts hinX4 hown hK hP 0 rfl rfl 4 (by decide) (hts (.fieldLink RX4 38 "TypingTutor" "past" "LTypingTutor$History;") (List.mem_of_getElem? (i := 1) rfl)) (fun _ h9 => h9) rfl dX4_isPlateau_1 ?_
  refine zci (zrV (As := []) (rest := []) ⟨hx, hb, hml, hown, hts⟩ (zV 16 hP hD hK hE hB hS rfl rfl) (c_X0_size  ) (cwV 0 hts gX4_isPlateau_X0_size rfl rfl rfl hdv_X0_size ⟨Nat.le_of_ble_eq_true rfl, Nat.le_of_ble_eq_true rfl⟩) rfl rfl hl.1 rfl (lv_room (Nat.le_of_ble_eq_true rfl)) dX4_isPlateau_4 ⟨Nat.le_of_ble_eq_true rfl, Nat.le_of_ble_eq_true rfl⟩) hS (fun H locs hP hD hS => ?_)
  have hP : va_P D vwCl (zWT cI cJ h (n, L) (kt, km, kl) (pt, pm, pl) (nu, le, ow, fo, run, wc, lc, tr, cl, tm, ms) (yl, yc, yt, co, pa, su, sc) mc ++ R) _ := hP
  have hD : va_D (zAb B) (zWT cI cJ h (n, L) (kt, km, kl) (pt, pm, pl) (nu, le, ow, fo, run, wc, lc, tr, cl, tm, ms) (yl, yc, yt, co, pa, su, sc) mc ++ R) := hD
  refine lv_istore_n (lv' := [(1, .int (nI co)), (0, .ref (h 0))]) hx hb dX4_isPlateau_7 rfl hl (by decide) rfl (fun ls hl => ?_)
  refine lv_iload_n hx hb dX4_isPlateau_8 rfl (lv_at hl 0 rfl) ?_
  refine lv_bipush (v := 6) hx hb dX4_isPlateau_9 (by decide) ?_
  refine lv_icmp_ge (tgt := 16) hx hb dX4_isPlateau_11 (by decide) (fun c_1 => ?_) (fun c_1 => ?_)
  · skip
    have c_1 : 6 ≤ co := (nI_leI (a := 6) (b := co) (by omega) (by omega)).mp c_1
    refine lv_aload_n hx hb dX4_isPlateau_16 rfl (lv_at hl 1 rfl) ?_
    refine va_get (ci := 4) (v := .ref (h 16)) (C := RX4) (T := TX4) (N := 6) hx hb hts hinX4 hown hK hP 0 rfl rfl 4 (by decide) (hts (.fieldLink RX4 38 "TypingTutor" "past" "LTypingTutor$History;") (List.mem_of_getElem? (i := 1) rfl)) (fun _ h9 => h9) rfl dX4_isPlateau_17 ?_
    refine lv_iload_n hx hb dX4_isPlateau_20 rfl (lv_at hl 0 rfl) ?_
    refine lv_iconst (v := 3) hx hb dX4_isPlateau_21 (by decide) ?_
    refine lv_isub hx hb dX4_isPlateau_22 ?_
    refine lv_topi (fun v_2 ev_2 => ?_)
    obtain rfl : v_2 = (nI (co - 3)) := ev_2.trans (pk_sub (a := co) (b := 3) (by omega))
    refine lv_iload_n hx hb dX4_isPlateau_23 rfl (lv_at hl 0 rfl) ?_
    refine zci (zrV (As := [.int (nI (co - 3)), .int (nI co)]) (rest := []) ⟨hx, hb, hml, hown, hts⟩ (zV 16 hP hD hK hE hB hS rfl rfl) (c_X0_greatestSpeed (a := (co - 3)) (b := co) (by omega) (by omega)) (cwV 2 hts gX4_isPlateau_X0_greatestSpeed rfl rfl rfl hdv_X0_greatestSpeed ⟨Nat.le_of_ble_eq_true rfl, Nat.le_of_ble_eq_true rfl⟩) rfl rfl hl.1 rfl (lv_room (Nat.le_of_ble_eq_true rfl)) dX4_isPlateau_24 ⟨Nat.le_of_ble_eq_true rfl, Nat.le_of_ble_eq_true rfl⟩) hS (fun H locs hP hD hS => ?_)
    have hP : va_P D vwCl (zWT cI cJ h (n, L) (kt, km, kl) (pt, pm, pl) (nu, le, ow, fo, run, wc, lc, tr, cl, tm, ms) (yl, yc, yt, co, pa, su, sc) mc ++ R) _ := hP
    have hD : va_D (zAb B) (zWT cI cJ h (n, L) (kt, km, kl) (pt, pm, pl) (nu, le, ow, fo, run, wc, lc, tr, cl, tm, ms) (yl, yc, yt, co, pa, su, sc) mc ++ R) := hD
    refine lv_istore_n (lv' := [(2, .int (zgs yl yt (co - 3) (co - (co - 3)))), (1, .int (nI co)), (0, .ref (h 0))]) hx hb dX4_isPlateau_27 rfl hl (by decide) rfl (fun ls hl => ?_)
    refine lv_aload_n hx hb dX4_isPlateau_28 rfl (lv_at hl 2 rfl) ?_
    refine va_get (ci := 4) (v := .ref (h 16)) (C := RX4) (T := TX4) (N := 6) hx hb hts hinX4 hown hK hP 0 rfl rfl 4 (by decide) (hts (.fieldLink RX4 38 "TypingTutor" "past" "LTypingTutor$History;") (List.mem_of_getElem? (i := 1) rfl)) (fun _ h9 => h9) rfl dX4_isPlateau_29 ?_
    refine lv_iload_n hx hb dX4_isPlateau_32 rfl (lv_at hl 1 rfl) ?_
    refine lv_bipush (v := 6) hx hb dX4_isPlateau_33 (by decide) ?_
    refine lv_isub hx hb dX4_isPlateau_35 ?_
    refine lv_topi (fun v_3 ev_3 => ?_)
    obtain rfl : v_3 = (nI (co - 6)) := ev_3.trans (pk_sub (a := co) (b := 6) (by omega))
    refine lv_iload_n hx hb dX4_isPlateau_36 rfl (lv_at hl 1 rfl) ?_
    refine lv_iconst (v := 3) hx hb dX4_isPlateau_37 (by decide) ?_
    refine lv_isub hx hb dX4_isPlateau_38 ?_
    refine lv_topi (fun v_4 ev_4 => ?_)
    obtain rfl : v_4 = (nI (co - 3)) := ev_4.trans (pk_sub (a := co) (b := 3) (by omega))
    refine zci (zrV (As := [.int (nI (co - 6)), .int (nI (co - 3))]) (rest := []) ⟨hx, hb, hml, hown, hts⟩ (zV 16 hP hD hK hE hB hS rfl rfl) (c_X0_greatestSpeed (a := (co - 6)) (b := (co - 3)) (by omega) (by omega)) (cwV 2 hts gX4_isPlateau_X0_greatestSpeed rfl rfl rfl hdv_X0_greatestSpeed ⟨Nat.le_of_ble_eq_true rfl, Nat.le_of_ble_eq_true rfl⟩) rfl rfl hl.1 rfl (lv_room (Nat.le_of_ble_eq_true rfl)) dX4_isPlateau_39 ⟨Nat.le_of_ble_eq_true rfl, Nat.le_of_ble_eq_true rfl⟩) hS (fun H locs hP hD hS => ?_)
    have hP : va_P D vwCl (zWT cI cJ h (n, L) (kt, km, kl) (pt, pm, pl) (nu, le, ow, fo, run, wc, lc, tr, cl, tm, ms) (yl, yc, yt, co, pa, su, sc) mc ++ R) _ := hP
    have hD : va_D (zAb B) (zWT cI cJ h (n, L) (kt, km, kl) (pt, pm, pl) (nu, le, ow, fo, run, wc, lc, tr, cl, tm, ms) (yl, yc, yt, co, pa, su, sc) mc ++ R) := hD
    refine lv_istore_n (lv' := [(3, .int (zgs yl yt (co - 6) ((co - 3) - (co - 6)))), (2, .int (zgs yl yt (co - 3) (co - (co - 3)))), (1, .int (nI co)), (0, .ref (h 0))]) hx hb dX4_isPlateau_42 rfl hl (by decide) rfl (fun ls hl => ?_)
    refine lv_iload_n hx hb dX4_isPlateau_43 rfl (lv_at hl 1 rfl) ?_
    refine lv_iload_n hx hb dX4_isPlateau_44 rfl (lv_at hl 0 rfl) ?_
    refine lv_icmp_gt (tgt := 52) hx hb dX4_isPlateau_45 (by decide) (fun c_5 => ?_) (fun c_5 => ?_)
    · skip
      refine lv_iconst (v := 0) hx hb dX4_isPlateau_52 (by decide) ?_
      exact W.zret (v := 0) hx hb hr rfl (fun t ht hW => ⟨⟨_, (), rfl, zb_f (by rw [zpl, decide_eq_false (Int32.not_le.mpr c_5), Bool.and_false]), by rw [ht]; exact hP, hD⟩, hS.F ht⟩) hS.2.2 dX4_isPlateau_53
    · skip
      refine lv_iconst (v := 1) hx hb dX4_isPlateau_48 (by decide) ?_
      refine lv_goto (tgt := 53) hx hb dX4_isPlateau_49 (by decide) ?_
      exact W.zret (v := 1) hx hb hr rfl (fun t ht hW => ⟨⟨_, (), rfl, zb_t (by rw [zpl, decide_eq_true (show 6 ≤ co by omega), decide_eq_true (Int32.not_lt.mp c_5)]; rfl), by rw [ht]; exact hP, hD⟩, hS.F ht⟩) hS.2.2 dX4_isPlateau_53
  · skip
    have c_1 : ¬ 6 ≤ co := fun hh => c_1 ((nI_leI (a := 6) (b := co) (by omega) (by omega)).mpr hh)
    refine lv_iconst (v := 0) hx hb dX4_isPlateau_14 (by decide) ?_
    exact W.zret (v := 0) hx hb hr rfl (fun t ht hW => ⟨⟨_, (), rfl, zb_f (by rw [zpl, decide_eq_false (by omega), Bool.false_and]), by rw [ht]; exact hP, hD⟩, hS.F ht⟩) hS.2.2 dX4_isPlateau_15
