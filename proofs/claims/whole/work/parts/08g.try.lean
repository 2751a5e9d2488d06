set_option maxHeartbeats 1000000 in
set_option maxRecDepth 100000 in
theorem c_X4_tryLetter {l : Launch} {B kr kp : Nat} {D : va_G} {cI cJ cZ : ClassId} {h : Nat → Nat} {R : va_W} {n : Nat} {L : Nat → Int64} {kt : Nat → Int32} {km : Nat → Int32} {kl : Nat → Int32} {pt : Nat → Int32} {pm : Nat → Int32} {pl : Nat → Int32} {nu : Nat → Int32} {le : Nat → Int32} {ow : Nat → Int32} {fo : Nat → Int32} {run : Bool} {wc : Nat} {lc : Nat} {tr : Nat} {cl : Nat} {tm : Nat} {ms : Nat} {yl : Nat → Int32} {yc : Nat → Int32} {yt : Nat → Int32} {co : Nat} {pa : Int32} {su : Nat} {sc : Nat} {mc : Nat → Int32} {time : Int32} {x : Nat} {o : Option Nat} {fin : Bool}  (hx9 : le tr = nI x) (hx26 : x < 26) (ho : zis le ow lc tr (nI tr - 1) = zoI o) (hoy : ∀ y, o = some y → y < 26) (hf : zsel fin (tr + 1 = lc) (tr + 1 < lc)) (htr : tr < lc) (hlc : lc ≤ 48) (hcl : cl ≤ tr) (hco : co < 256) (h2ms : ms ≤ 2) : Met l yX4_tryLetter wsX4_tryLetter ({ frames := 3, cells := 0, slots := 0, locals := 70 }) (zPc B kr kp D (zTy cI cJ cZ) (zWT cI cJ h (n, L) (kt, km, kl) (pt, pm, pl) (nu, le, ow, fo, run, wc, lc, tr, cl, tm, ms) (yl, yc, yt, co, pa, su, sc) mc ++ R) [.ref (h 0), .int time]) (zQv B D (zWT cI cJ h (n, L) ((zkt kt x), (zkm (zc0 ms) km x), (zkl (zc0 ms) kl x time)) ((zou o x pt (zkt pt)), (zou o x pm (zkm (zc0 ms) pm)), (zou o x pl (fun p => zkl (zc0 ms) pl p time))) (nu, le, ow, fo, (zsel fin false run), wc, lc, (tr + 1), (zsel (zc0 ms) (cl + 1) cl), tm, 0) ((zsel fin (upd yl co (nI lc)) yl), (zsel fin (upd yc co (nI (zsel (zc0 ms) (cl + 1) cl))) yc), (zsel fin (upd yt co (nI tm)) yt), (zsel fin (co + 1) co), (zsel fin (zpc pa lc (zsel (zc0 ms) (cl + 1) cl)) pa), (zsel fin (su + lc) su), (zsel fin (sc + (zsel (zc0 ms) (cl + 1) cl)) sc)) mc ++ R)) 0 0 (zAb B) := by
  cases ms with
  | zero =>
    cases o with
    | none =>
      cases fin with
      | true =>
        refine Met.ofW (cc := cX4_tryLetter) (maxL := 5) (ret := none) (by decide) rfl ?_
        intro p e s m args below meth c s₁ B0 hml hv
        obtain ⟨rfl, hP, hD, hK, hE, hB⟩ := hv
        have hx := B0.exec
        have hb := B0.bytes
        have hr := B0.returns
        have hts := atoms_spec (ws := wsX4_tryLetter) B0.pre
        have hown : s.vm.findClass RX4 = some m.cls := findClass_of_methodNamed B0.named
        have hlocks := B0.notSynchronized
        have hA : ∀ q : Nat, s.heap.size ≤ q → zAb B q := fun q hq => Nat.le_trans hB hq
        have hS : va_S (zAb B) s.heap s.heap [] := va_S.rf
        have hgr : s.heap.size ≤ s.heap.size := Nat.le_refl _
        have hl := lv_entry ([.ref (h 0), .int time]) (n := 5) (Nat.le_of_ble_eq_true rfl)
        rw [lg_entry_eq]
        generalize (lg_sl ([.ref (h 0), .int time]) ++ List.replicate (5 - (lg_sl ([.ref (h 0), .int time])).length) Slot.unset).toArray = ls at hl ⊢
        have hl : lv_has ls 5 [(0, .ref (h 0)), (1, .int time)] := hl
        have hinX4 : ∀ w ∈ wsX40, w ∈ wsX4_tryLetter := fun _ h => List.mem_cons_of_mem _ (List.mem_append_left _ (List.mem_append_left _ (List.mem_append_left _ (List.mem_append_right _ h))))
        have hP : va_P D vwCl (zWT cI cJ h (n, L) (kt, km, kl) (pt, pm, pl) (nu, le, ow, fo, run, wc, lc, tr, cl, tm, 0) (yl, yc, yt, co, pa, su, sc) mc ++ R) s.heap := hP
        have hD : va_D (zAb B) (zWT cI cJ h (n, L) (kt, km, kl) (pt, pm, pl) (nu, le, ow, fo, run, wc, lc, tr, cl, tm, 0) (yl, yc, yt, co, pa, su, sc) mc ++ R) := hD
        have hf : tr + 1 = lc := hf
        refine lv_aload_n hx hb dX4_tryLetter_0 rfl (lv_at hl 0 rfl) ?_
        refine va_get (ci := 4) (v := .ref (h 11)) (C := RX4) (T := TX4) (N := 6) hx hb hts hinX4 hown hK hP 0 rfl rfl 3 (by decide) (hts (.fieldLink RX4 31 "TypingTutor" "current" "LTypingTutor$Lesson;") (List.mem_of_getElem? (i := 1) rfl)) (fun _ h9 => h9) rfl dX4_tryLetter_1 ?_
        refine zci (zrV (As := []) (rest := []) ⟨hx, hb, hml, hown, hts⟩ (zV 11 hP hD hK hE hB hS rfl rfl) (c_X2_mistakesHere  ) (cwV 0 hts gX4_tryLetter_X2_mistakesHere rfl rfl rfl hdv_X2_mistakesHere ⟨Nat.le_of_ble_eq_true rfl, Nat.le_of_ble_eq_true rfl⟩) rfl rfl hl.1 rfl (lv_room (Nat.le_of_ble_eq_true rfl)) dX4_tryLetter_4 ⟨Nat.le_of_ble_eq_true rfl, Nat.le_of_ble_eq_true rfl⟩) hS (fun H locs hP hD hS => ?_)
        have hP : va_P D vwCl (zWT cI cJ h (n, L) (kt, km, kl) (pt, pm, pl) (nu, le, ow, fo, run, wc, lc, tr, cl, tm, 0) (yl, yc, yt, co, pa, su, sc) mc ++ R) _ := hP
        have hD : va_D (zAb B) (zWT cI cJ h (n, L) (kt, km, kl) (pt, pm, pl) (nu, le, ow, fo, run, wc, lc, tr, cl, tm, 0) (yl, yc, yt, co, pa, su, sc) mc ++ R) := hD
        refine lv_if_ne (tgt := 14) hx hb dX4_tryLetter_7 (by decide) (fun c_1 => ?_) (fun c_1 => ?_)
        · skip
          exfalso; first | omega | (revert c_1; decide) | (exact absurd rfl c_1) | simp_all
        · skip
          refine lv_iconst (v := 1) hx hb dX4_tryLetter_10 (by decide) ?_
          refine lv_goto (tgt := 15) hx hb dX4_tryLetter_11 (by decide) ?_
          refine lv_istore_n (lv' := [(2, .int 1), (0, .ref (h 0)), (1, .int time)]) hx hb dX4_tryLetter_15 rfl hl (by decide) rfl (fun ls hl => ?_)
          refine lv_aload_n hx hb dX4_tryLetter_16 rfl (lv_at hl 1 rfl) ?_
          refine va_get (ci := 4) (v := .ref (h 11)) (C := RX4) (T := TX4) (N := 6) hx hb hts hinX4 hown hK hP 0 rfl rfl 3 (by decide) (hts (.fieldLink RX4 31 "TypingTutor" "current" "LTypingTutor$Lesson;") (List.mem_of_getElem? (i := 1) rfl)) (fun _ h9 => h9) rfl dX4_tryLetter_17 ?_
          refine zci (zrV (As := []) (rest := []) ⟨hx, hb, hml, hown, hts⟩ (zV 11 hP hD hK hE hB hS rfl rfl) (c_X2_letterHere  (by omega)) (cwV 0 hts gX4_tryLetter_X2_letterHere rfl rfl rfl hdv_X2_letterHere ⟨Nat.le_of_ble_eq_true rfl, Nat.le_of_ble_eq_true rfl⟩) rfl rfl hl.1 rfl (lv_room (Nat.le_of_ble_eq_true rfl)) dX4_tryLetter_20 ⟨Nat.le_of_ble_eq_true rfl, Nat.le_of_ble_eq_true rfl⟩) hS (fun H locs hP hD hS => ?_)
          have hP : va_P D vwCl (zWT cI cJ h (n, L) (kt, km, kl) (pt, pm, pl) (nu, le, ow, fo, run, wc, lc, tr, cl, tm, 0) (yl, yc, yt, co, pa, su, sc) mc ++ R) _ := hP
          have hD : va_D (zAb B) (zWT cI cJ h (n, L) (kt, km, kl) (pt, pm, pl) (nu, le, ow, fo, run, wc, lc, tr, cl, tm, 0) (yl, yc, yt, co, pa, su, sc) mc ++ R) := hD
          rw [show (le tr) = (nI x) from hx9]
          refine lv_istore_n (lv' := [(3, .int (nI x)), (2, .int 1), (0, .ref (h 0)), (1, .int time)]) hx hb dX4_tryLetter_23 rfl hl (by decide) rfl (fun ls hl => ?_)
          refine lv_aload_n hx hb dX4_tryLetter_24 rfl (lv_at hl 2 rfl) ?_
          refine va_get (ci := 4) (v := .ref (h 11)) (C := RX4) (T := TX4) (N := 6) hx hb hts hinX4 hown hK hP 0 rfl rfl 3 (by decide) (hts (.fieldLink RX4 31 "TypingTutor" "current" "LTypingTutor$Lesson;") (List.mem_of_getElem? (i := 1) rfl)) (fun _ h9 => h9) rfl dX4_tryLetter_25 ?_
          refine zci (zrV (As := []) (rest := []) ⟨hx, hb, hml, hown, hts⟩ (zV 11 hP hD hK hE hB hS rfl rfl) (c_X2_letterBefore  (by omega) (by omega)) (cwV 0 hts gX4_tryLetter_X2_letterBefore rfl rfl rfl hdv_X2_letterBefore ⟨Nat.le_of_ble_eq_true rfl, Nat.le_of_ble_eq_true rfl⟩) rfl rfl hl.1 rfl (lv_room (Nat.le_of_ble_eq_true rfl)) dX4_tryLetter_28 ⟨Nat.le_of_ble_eq_true rfl, Nat.le_of_ble_eq_true rfl⟩) hS (fun H locs hP hD hS => ?_)
          have hP : va_P D vwCl (zWT cI cJ h (n, L) (kt, km, kl) (pt, pm, pl) (nu, le, ow, fo, run, wc, lc, tr, cl, tm, 0) (yl, yc, yt, co, pa, su, sc) mc ++ R) _ := hP
          have hD : va_D (zAb B) (zWT cI cJ h (n, L) (kt, km, kl) (pt, pm, pl) (nu, le, ow, fo, run, wc, lc, tr, cl, tm, 0) (yl, yc, yt, co, pa, su, sc) mc ++ R) := hD
          rw [show (zis le ow lc tr (nI tr - 1)) = (-1) from ho]
          refine lv_istore (lv' := [(4, .int (-1)), (3, .int (nI x)), (2, .int 1), (0, .ref (h 0)), (1, .int time)]) hx hb dX4_tryLetter_31 hl (by decide) rfl (fun ls hl => ?_)
          refine lv_aload_n hx hb dX4_tryLetter_33 rfl (lv_at hl 3 rfl) ?_
          refine va_get (ci := 4) (v := .ref (h 3)) (C := RX4) (T := TX4) (N := 6) hx hb hts hinX4 hown hK hP 0 rfl rfl 1 (by decide) (hts (.fieldLink RX4 21 "TypingTutor" "keys" "LTypingTutor$Knowledge;") (List.mem_of_getElem? (i := 2) rfl)) (fun _ h9 => h9) rfl dX4_tryLetter_34 ?_
          refine lv_iload_n hx hb dX4_tryLetter_37 rfl (lv_at hl 1 rfl) ?_
          refine lv_iload_n hx hb dX4_tryLetter_38 rfl (lv_at hl 2 rfl) ?_
          refine lv_iload_n hx hb dX4_tryLetter_39 rfl (lv_at hl 4 rfl) ?_
          refine zcv (zrV (As := [.int (nI x), .int 1, .int time]) (rest := []) ⟨hx, hb, hml, hown, hts⟩ (zV 3 hP hD hK hE hB hS rfl rfl) (c_X1_learn_k (k := x) (b := true) (by omega)) (cwV 3 hts gX4_tryLetter_X1_learn rfl rfl rfl hdv_X1_learn ⟨Nat.le_of_ble_eq_true rfl, Nat.le_of_ble_eq_true rfl⟩) rfl rfl hl.1 rfl (lv_room (Nat.le_of_ble_eq_true rfl)) dX4_tryLetter_40 ⟨Nat.le_of_ble_eq_true rfl, Nat.le_of_ble_eq_true rfl⟩) hS (fun H locs hP hD hS => ?_)
          have hP : va_P D vwCl (zWT cI cJ h (n, L) ((zkt kt x), (zkm true km x), (zkl true kl x time)) (pt, pm, pl) (nu, le, ow, fo, run, wc, lc, tr, cl, tm, 0) (yl, yc, yt, co, pa, su, sc) mc ++ R) _ := hP
          have hD : va_D (zAb B) (zWT cI cJ h (n, L) ((zkt kt x), (zkm true km x), (zkl true kl x time)) (pt, pm, pl) (nu, le, ow, fo, run, wc, lc, tr, cl, tm, 0) (yl, yc, yt, co, pa, su, sc) mc ++ R) := hD
          refine lv_iload hx hb dX4_tryLetter_43 (lv_at hl 0 rfl) ?_
          refine lv_iconst (v := (-1)) hx hb dX4_tryLetter_45 (by decide) ?_
          refine lv_icmp_eq (tgt := 64) hx hb dX4_tryLetter_46 (by decide) (fun c_2 => ?_) (fun c_2 => ?_)
          · skip
            refine lv_aload_n hx hb dX4_tryLetter_64 rfl (lv_at hl 3 rfl) ?_
            refine va_get (ci := 4) (v := .ref (h 11)) (C := RX4) (T := TX4) (N := 6) hx hb hts hinX4 hown hK hP 0 rfl rfl 3 (by decide) (hts (.fieldLink RX4 31 "TypingTutor" "current" "LTypingTutor$Lesson;") (List.mem_of_getElem? (i := 1) rfl)) (fun _ h9 => h9) rfl dX4_tryLetter_65 ?_
            refine lv_iload_n hx hb dX4_tryLetter_68 rfl (lv_at hl 2 rfl) ?_
            refine zcv (zrV (As := [.int 1]) (rest := []) ⟨hx, hb, hml, hown, hts⟩ (zV 11 hP hD hK hE hB hS rfl rfl) (c_X2_goOn_1  ) (cwV 1 hts gX4_tryLetter_X2_goOn rfl rfl rfl hdv_X2_goOn ⟨Nat.le_of_ble_eq_true rfl, Nat.le_of_ble_eq_true rfl⟩) rfl rfl hl.1 rfl (lv_room (Nat.le_of_ble_eq_true rfl)) dX4_tryLetter_69 ⟨Nat.le_of_ble_eq_true rfl, Nat.le_of_ble_eq_true rfl⟩) hS (fun H locs hP hD hS => ?_)
            have hP : va_P D vwCl (zWT cI cJ h (n, L) ((zkt kt x), (zkm true km x), (zkl true kl x time)) (pt, pm, pl) (nu, le, ow, fo, run, wc, lc, (tr + 1), (cl + 1), tm, 0) (yl, yc, yt, co, pa, su, sc) mc ++ R) _ := hP
            have hD : va_D (zAb B) (zWT cI cJ h (n, L) ((zkt kt x), (zkm true km x), (zkl true kl x time)) (pt, pm, pl) (nu, le, ow, fo, run, wc, lc, (tr + 1), (cl + 1), tm, 0) (yl, yc, yt, co, pa, su, sc) mc ++ R) := hD
            refine lv_aload_n hx hb dX4_tryLetter_72 rfl (lv_at hl 3 rfl) ?_
            refine va_get (ci := 4) (v := .ref (h 11)) (C := RX4) (T := TX4) (N := 6) hx hb hts hinX4 hown hK hP 0 rfl rfl 3 (by decide) (hts (.fieldLink RX4 31 "TypingTutor" "current" "LTypingTutor$Lesson;") (List.mem_of_getElem? (i := 1) rfl)) (fun _ h9 => h9) rfl dX4_tryLetter_73 ?_
            refine zci (zrV (As := []) (rest := []) ⟨hx, hb, hml, hown, hts⟩ (zV 11 hP hD hK hE hB hS rfl rfl) (c_X2_triedTotal  ) (cwV 0 hts gX4_tryLetter_X2_triedTotal rfl rfl rfl hdv_X2_triedTotal ⟨Nat.le_of_ble_eq_true rfl, Nat.le_of_ble_eq_true rfl⟩) rfl rfl hl.1 rfl (lv_room (Nat.le_of_ble_eq_true rfl)) dX4_tryLetter_76 ⟨Nat.le_of_ble_eq_true rfl, Nat.le_of_ble_eq_true rfl⟩) hS (fun H locs hP hD hS => ?_)
            have hP : va_P D vwCl (zWT cI cJ h (n, L) ((zkt kt x), (zkm true km x), (zkl true kl x time)) (pt, pm, pl) (nu, le, ow, fo, run, wc, lc, (tr + 1), (cl + 1), tm, 0) (yl, yc, yt, co, pa, su, sc) mc ++ R) _ := hP
            have hD : va_D (zAb B) (zWT cI cJ h (n, L) ((zkt kt x), (zkm true km x), (zkl true kl x time)) (pt, pm, pl) (nu, le, ow, fo, run, wc, lc, (tr + 1), (cl + 1), tm, 0) (yl, yc, yt, co, pa, su, sc) mc ++ R) := hD
            refine lv_aload_n hx hb dX4_tryLetter_79 rfl (lv_at hl 3 rfl) ?_
            refine va_get (ci := 4) (v := .ref (h 11)) (C := RX4) (T := TX4) (N := 6) hx hb hts hinX4 hown hK hP 0 rfl rfl 3 (by decide) (hts (.fieldLink RX4 31 "TypingTutor" "current" "LTypingTutor$Lesson;") (List.mem_of_getElem? (i := 1) rfl)) (fun _ h9 => h9) rfl dX4_tryLetter_80 ?_
            refine zci (zrV (As := []) (rest := [.int (nI (tr + 1))]) ⟨hx, hb, hml, hown, hts⟩ (zV 11 hP hD hK hE hB hS rfl rfl) (c_X2_letterTotal  ) (cwV 0 hts gX4_tryLetter_X2_letterTotal rfl rfl rfl hdv_X2_letterTotal ⟨Nat.le_of_ble_eq_true rfl, Nat.le_of_ble_eq_true rfl⟩) rfl rfl hl.1 rfl (lv_room (Nat.le_of_ble_eq_true rfl)) dX4_tryLetter_83 ⟨Nat.le_of_ble_eq_true rfl, Nat.le_of_ble_eq_true rfl⟩) hS (fun H locs hP hD hS => ?_)
            have hP : va_P D vwCl (zWT cI cJ h (n, L) ((zkt kt x), (zkm true km x), (zkl true kl x time)) (pt, pm, pl) (nu, le, ow, fo, run, wc, lc, (tr + 1), (cl + 1), tm, 0) (yl, yc, yt, co, pa, su, sc) mc ++ R) _ := hP
            have hD : va_D (zAb B) (zWT cI cJ h (n, L) ((zkt kt x), (zkm true km x), (zkl true kl x time)) (pt, pm, pl) (nu, le, ow, fo, run, wc, lc, (tr + 1), (cl + 1), tm, 0) (yl, yc, yt, co, pa, su, sc) mc ++ R) := hD
            refine lv_icmp_lt (tgt := 124) hx hb dX4_tryLetter_86 (by decide) (fun c_3 => ?_) (fun c_3 => ?_)
            · skip
              have c_3 : (tr + 1) < lc := (nI_ltI (a := (tr + 1)) (b := lc) (by omega) (by omega)).mp c_3
              omega
            · skip
              have c_3 : ¬ (tr + 1) < lc := fun hh => c_3 ((nI_ltI (a := (tr + 1)) (b := lc) (by omega) (by omega)).mpr hh)
              refine lv_aload_n hx hb dX4_tryLetter_89 rfl (lv_at hl 3 rfl) ?_
              refine va_get (ci := 4) (v := .ref (h 11)) (C := RX4) (T := TX4) (N := 6) hx hb hts hinX4 hown hK hP 0 rfl rfl 3 (by decide) (hts (.fieldLink RX4 31 "TypingTutor" "current" "LTypingTutor$Lesson;") (List.mem_of_getElem? (i := 1) rfl)) (fun _ h9 => h9) rfl dX4_tryLetter_90 ?_
              refine zcv (zrV (As := []) (rest := []) ⟨hx, hb, hml, hown, hts⟩ (zV 11 hP hD hK hE hB hS rfl rfl) (c_X2_stop  ) (cwV 0 hts gX4_tryLetter_X2_stop rfl rfl rfl hdv_X2_stop ⟨Nat.le_of_ble_eq_true rfl, Nat.le_of_ble_eq_true rfl⟩) rfl rfl hl.1 rfl (lv_room (Nat.le_of_ble_eq_true rfl)) dX4_tryLetter_93 ⟨Nat.le_of_ble_eq_true rfl, Nat.le_of_ble_eq_true rfl⟩) hS (fun H locs hP hD hS => ?_)
              have hP : va_P D vwCl (zWT cI cJ h (n, L) ((zkt kt x), (zkm true km x), (zkl true kl x time)) (pt, pm, pl) (nu, le, ow, fo, false, wc, lc, (tr + 1), (cl + 1), tm, 0) (yl, yc, yt, co, pa, su, sc) mc ++ R) _ := hP
              have hD : va_D (zAb B) (zWT cI cJ h (n, L) ((zkt kt x), (zkm true km x), (zkl true kl x time)) (pt, pm, pl) (nu, le, ow, fo, false, wc, lc, (tr + 1), (cl + 1), tm, 0) (yl, yc, yt, co, pa, su, sc) mc ++ R) := hD
              refine lv_aload_n hx hb dX4_tryLetter_96 rfl (lv_at hl 3 rfl) ?_
              refine va_get (ci := 4) (v := .ref (h 16)) (C := RX4) (T := TX4) (N := 6) hx hb hts hinX4 hown hK hP 0 rfl rfl 4 (by decide) (hts (.fieldLink RX4 38 "TypingTutor" "past" "LTypingTutor$History;") (List.mem_of_getElem? (i := 4) rfl)) (fun _ h9 => h9) rfl dX4_tryLetter_97 ?_
              refine lv_aload_n hx hb dX4_tryLetter_100 rfl (lv_at hl 3 rfl) ?_
              refine va_get (ci := 4) (v := .ref (h 11)) (C := RX4) (T := TX4) (N := 6) hx hb hts hinX4 hown hK hP 0 rfl rfl 3 (by decide) (hts (.fieldLink RX4 31 "TypingTutor" "current" "LTypingTutor$Lesson;") (List.mem_of_getElem? (i := 1) rfl)) (fun _ h9 => h9) rfl dX4_tryLetter_101 ?_
              refine zci (zrV (As := []) (rest := [.ref (h 16)]) ⟨hx, hb, hml, hown, hts⟩ (zV 11 hP hD hK hE hB hS rfl rfl) (c_X2_letterTotal  ) (cwV 0 hts gX4_tryLetter_X2_letterTotal rfl rfl rfl hdv_X2_letterTotal ⟨Nat.le_of_ble_eq_true rfl, Nat.le_of_ble_eq_true rfl⟩) rfl rfl hl.1 rfl (lv_room (Nat.le_of_ble_eq_true rfl)) dX4_tryLetter_104 ⟨Nat.le_of_ble_eq_true rfl, Nat.le_of_ble_eq_true rfl⟩) hS (fun H locs hP hD hS => ?_)
              have hP : va_P D vwCl (zWT cI cJ h (n, L) ((zkt kt x), (zkm true km x), (zkl true kl x time)) (pt, pm, pl) (nu, le, ow, fo, false, wc, lc, (tr + 1), (cl + 1), tm, 0) (yl, yc, yt, co, pa, su, sc) mc ++ R) _ := hP
              have hD : va_D (zAb B) (zWT cI cJ h (n, L) ((zkt kt x), (zkm true km x), (zkl true kl x time)) (pt, pm, pl) (nu, le, ow, fo, false, wc, lc, (tr + 1), (cl + 1), tm, 0) (yl, yc, yt, co, pa, su, sc) mc ++ R) := hD
              refine lv_aload_n hx hb dX4_tryLetter_107 rfl (lv_at hl 3 rfl) ?_
              refine va_get (ci := 4) (v := .ref (h 11)) (C := RX4) (T := TX4) (N := 6) hx hb hts hinX4 hown hK hP 0 rfl rfl 3 (by decide) (hts (.fieldLink RX4 31 "TypingTutor" "current" "LTypingTutor$Lesson;") (List.mem_of_getElem? (i := 1) rfl)) (fun _ h9 => h9) rfl dX4_tryLetter_108 ?_
              refine zci (zrV (As := []) (rest := [.int (nI lc), .ref (h 16)]) ⟨hx, hb, hml, hown, hts⟩ (zV 11 hP hD hK hE hB hS rfl rfl) (c_X2_cleanTotal  ) (cwV 0 hts gX4_tryLetter_X2_cleanTotal rfl rfl rfl hdv_X2_cleanTotal ⟨Nat.le_of_ble_eq_true rfl, Nat.le_of_ble_eq_true rfl⟩) rfl rfl hl.1 rfl (lv_room (Nat.le_of_ble_eq_true rfl)) dX4_tryLetter_111 ⟨Nat.le_of_ble_eq_true rfl, Nat.le_of_ble_eq_true rfl⟩) hS (fun H locs hP hD hS => ?_)
              have hP : va_P D vwCl (zWT cI cJ h (n, L) ((zkt kt x), (zkm true km x), (zkl true kl x time)) (pt, pm, pl) (nu, le, ow, fo, false, wc, lc, (tr + 1), (cl + 1), tm, 0) (yl, yc, yt, co, pa, su, sc) mc ++ R) _ := hP
              have hD : va_D (zAb B) (zWT cI cJ h (n, L) ((zkt kt x), (zkm true km x), (zkl true kl x time)) (pt, pm, pl) (nu, le, ow, fo, false, wc, lc, (tr + 1), (cl + 1), tm, 0) (yl, yc, yt, co, pa, su, sc) mc ++ R) := hD
              refine lv_aload_n hx hb dX4_tryLetter_114 rfl (lv_at hl 3 rfl) ?_
              refine va_get (ci := 4) (v := .ref (h 11)) (C := RX4) (T := TX4) (N := 6) hx hb hts hinX4 hown hK hP 0 rfl rfl 3 (by decide) (hts (.fieldLink RX4 31 "TypingTutor" "current" "LTypingTutor$Lesson;") (List.mem_of_getElem? (i := 1) rfl)) (fun _ h9 => h9) rfl dX4_tryLetter_115 ?_
              refine zci (zrV (As := []) (rest := [.int (nI (cl + 1)), .int (nI lc), .ref (h 16)]) ⟨hx, hb, hml, hown, hts⟩ (zV 11 hP hD hK hE hB hS rfl rfl) (c_X2_timeSum  ) (cwV 0 hts gX4_tryLetter_X2_timeSum rfl rfl rfl hdv_X2_timeSum ⟨Nat.le_of_ble_eq_true rfl, Nat.le_of_ble_eq_true rfl⟩) rfl rfl hl.1 rfl (lv_room (Nat.le_of_ble_eq_true rfl)) dX4_tryLetter_118 ⟨Nat.le_of_ble_eq_true rfl, Nat.le_of_ble_eq_true rfl⟩) hS (fun H locs hP hD hS => ?_)
              have hP : va_P D vwCl (zWT cI cJ h (n, L) ((zkt kt x), (zkm true km x), (zkl true kl x time)) (pt, pm, pl) (nu, le, ow, fo, false, wc, lc, (tr + 1), (cl + 1), tm, 0) (yl, yc, yt, co, pa, su, sc) mc ++ R) _ := hP
              have hD : va_D (zAb B) (zWT cI cJ h (n, L) ((zkt kt x), (zkm true km x), (zkl true kl x time)) (pt, pm, pl) (nu, le, ow, fo, false, wc, lc, (tr + 1), (cl + 1), tm, 0) (yl, yc, yt, co, pa, su, sc) mc ++ R) := hD
              refine zcv (zrV (As := [.int (nI lc), .int (nI (cl + 1)), .int (nI tm)]) (rest := []) ⟨hx, hb, hml, hown, hts⟩ (zV 16 hP hD hK hE hB hS rfl rfl) (c_X0_keep (lt := lc) (ct := (cl + 1)) (ts := tm) (by omega) (by omega) (by omega)) (cwV 3 hts gX4_tryLetter_X0_keep rfl rfl rfl hdv_X0_keep ⟨Nat.le_of_ble_eq_true rfl, Nat.le_of_ble_eq_true rfl⟩) rfl rfl hl.1 rfl (lv_room (Nat.le_of_ble_eq_true rfl)) dX4_tryLetter_121 ⟨Nat.le_of_ble_eq_true rfl, Nat.le_of_ble_eq_true rfl⟩) hS (fun H locs hP hD hS => ?_)
              have hP : va_P D vwCl (zWT cI cJ h (n, L) ((zkt kt x), (zkm true km x), (zkl true kl x time)) (pt, pm, pl) (nu, le, ow, fo, false, wc, lc, (tr + 1), (cl + 1), tm, 0) ((upd yl co (nI lc)), (upd yc co (nI (cl + 1))), (upd yt co (nI tm)), (co + 1), (zpc pa lc (cl + 1)), (su + lc), (sc + (cl + 1))) mc ++ R) _ := hP
              have hD : va_D (zAb B) (zWT cI cJ h (n, L) ((zkt kt x), (zkm true km x), (zkl true kl x time)) (pt, pm, pl) (nu, le, ow, fo, false, wc, lc, (tr + 1), (cl + 1), tm, 0) ((upd yl co (nI lc)), (upd yc co (nI (cl + 1))), (upd yt co (nI tm)), (co + 1), (zpc pa lc (cl + 1)), (su + lc), (sc + (cl + 1))) mc ++ R) := hD
              exact W.vret hx hb hr (fun t ht hW => ⟨⟨(), rfl, trivial, by rw [ht]; exact hP, hD⟩, hS.F ht⟩) hS.2.2 dX4_tryLetter_124
          · skip
            exfalso; first | omega | (revert c_2; decide) | (exact absurd rfl c_2) | simp_all
      | false =>
        refine Met.ofW (cc := cX4_tryLetter) (maxL := 5) (ret := none) (by decide) rfl ?_
        intro p e s m args below meth c s₁ B0 hml hv
        obtain ⟨rfl, hP, hD, hK, hE, hB⟩ := hv
        have hx := B0.exec
        have hb := B0.bytes
        have hr := B0.returns
        have hts := atoms_spec (ws := wsX4_tryLetter) B0.pre
        have hown : s.vm.findClass RX4 = some m.cls := findClass_of_methodNamed B0.named
        have hlocks := B0.notSynchronized
        have hA : ∀ q : Nat, s.heap.size ≤ q → zAb B q := fun q hq => Nat.le_trans hB hq
        have hS : va_S (zAb B) s.heap s.heap [] := va_S.rf
        have hgr : s.heap.size ≤ s.heap.size := Nat.le_refl _
        have hl := lv_entry ([.ref (h 0), .int time]) (n := 5) (Nat.le_of_ble_eq_true rfl)
        rw [lg_entry_eq]
        generalize (lg_sl ([.ref (h 0), .int time]) ++ List.replicate (5 - (lg_sl ([.ref (h 0), .int time])).length) Slot.unset).toArray = ls at hl ⊢
        have hl : lv_has ls 5 [(0, .ref (h 0)), (1, .int time)] := hl
        have hinX4 : ∀ w ∈ wsX40, w ∈ wsX4_tryLetter := fun _ h => List.mem_cons_of_mem _ (List.mem_append_left _ (List.mem_append_left _ (List.mem_append_left _ (List.mem_append_right _ h))))
        have hP : va_P D vwCl (zWT cI cJ h (n, L) (kt, km, kl) (pt, pm, pl) (nu, le, ow, fo, run, wc, lc, tr, cl, tm, 0) (yl, yc, yt, co, pa, su, sc) mc ++ R) s.heap := hP
        have hD : va_D (zAb B) (zWT cI cJ h (n, L) (kt, km, kl) (pt, pm, pl) (nu, le, ow, fo, run, wc, lc, tr, cl, tm, 0) (yl, yc, yt, co, pa, su, sc) mc ++ R) := hD
        have hf : tr + 1 < lc := hf
        refine lv_aload_n hx hb dX4_tryLetter_0 rfl (lv_at hl 0 rfl) ?_
        refine va_get (ci := 4) (v := .ref (h 11)) (C := RX4) (T := TX4) (N := 6) hx hb hts hinX4 hown hK hP 0 rfl rfl 3 (by decide) (hts (.fieldLink RX4 31 "TypingTutor" "current" "LTypingTutor$Lesson;") (List.mem_of_getElem? (i := 1) rfl)) (fun _ h9 => h9) rfl dX4_tryLetter_1 ?_
        refine zci (zrV (As := []) (rest := []) ⟨hx, hb, hml, hown, hts⟩ (zV 11 hP hD hK hE hB hS rfl rfl) (c_X2_mistakesHere  ) (cwV 0 hts gX4_tryLetter_X2_mistakesHere rfl rfl rfl hdv_X2_mistakesHere ⟨Nat.le_of_ble_eq_true rfl, Nat.le_of_ble_eq_true rfl⟩) rfl rfl hl.1 rfl (lv_room (Nat.le_of_ble_eq_true rfl)) dX4_tryLetter_4 ⟨Nat.le_of_ble_eq_true rfl, Nat.le_of_ble_eq_true rfl⟩) hS (fun H locs hP hD hS => ?_)
        have hP : va_P D vwCl (zWT cI cJ h (n, L) (kt, km, kl) (pt, pm, pl) (nu, le, ow, fo, run, wc, lc, tr, cl, tm, 0) (yl, yc, yt, co, pa, su, sc) mc ++ R) _ := hP
        have hD : va_D (zAb B) (zWT cI cJ h (n, L) (kt, km, kl) (pt, pm, pl) (nu, le, ow, fo, run, wc, lc, tr, cl, tm, 0) (yl, yc, yt, co, pa, su, sc) mc ++ R) := hD
        refine lv_if_ne (tgt := 14) hx hb dX4_tryLetter_7 (by decide) (fun c_4 => ?_) (fun c_4 => ?_)
        · skip
          exfalso; first | omega | (revert c_4; decide) | (exact absurd rfl c_4) | simp_all
        · skip
          refine lv_iconst (v := 1) hx hb dX4_tryLetter_10 (by decide) ?_
          refine lv_goto (tgt := 15) hx hb dX4_tryLetter_11 (by decide) ?_
          refine lv_istore_n (lv' := [(2, .int 1), (0, .ref (h 0)), (1, .int time)]) hx hb dX4_tryLetter_15 rfl hl (by decide) rfl (fun ls hl => ?_)
          refine lv_aload_n hx hb dX4_tryLetter_16 rfl (lv_at hl 1 rfl) ?_
          refine va_get (ci := 4) (v := .ref (h 11)) (C := RX4) (T := TX4) (N := 6) hx hb hts hinX4 hown hK hP 0 rfl rfl 3 (by decide) (hts (.fieldLink RX4 31 "TypingTutor" "current" "LTypingTutor$Lesson;") (List.mem_of_getElem? (i := 1) rfl)) (fun _ h9 => h9) rfl dX4_tryLetter_17 ?_
          refine zci (zrV (As := []) (rest := []) ⟨hx, hb, hml, hown, hts⟩ (zV 11 hP hD hK hE hB hS rfl rfl) (c_X2_letterHere  (by omega)) (cwV 0 hts gX4_tryLetter_X2_letterHere rfl rfl rfl hdv_X2_letterHere ⟨Nat.le_of_ble_eq_true rfl, Nat.le_of_ble_eq_true rfl⟩) rfl rfl hl.1 rfl (lv_room (Nat.le_of_ble_eq_true rfl)) dX4_tryLetter_20 ⟨Nat.le_of_ble_eq_true rfl, Nat.le_of_ble_eq_true rfl⟩) hS (fun H locs hP hD hS => ?_)
          have hP : va_P D vwCl (zWT cI cJ h (n, L) (kt, km, kl) (pt, pm, pl) (nu, le, ow, fo, run, wc, lc, tr, cl, tm, 0) (yl, yc, yt, co, pa, su, sc) mc ++ R) _ := hP
          have hD : va_D (zAb B) (zWT cI cJ h (n, L) (kt, km, kl) (pt, pm, pl) (nu, le, ow, fo, run, wc, lc, tr, cl, tm, 0) (yl, yc, yt, co, pa, su, sc) mc ++ R) := hD
          rw [show (le tr) = (nI x) from hx9]
          refine lv_istore_n (lv' := [(3, .int (nI x)), (2, .int 1), (0, .ref (h 0)), (1, .int time)]) hx hb dX4_tryLetter_23 rfl hl (by decide) rfl (fun ls hl => ?_)
          refine lv_aload_n hx hb dX4_tryLetter_24 rfl (lv_at hl 2 rfl) ?_
          refine va_get (ci := 4) (v := .ref (h 11)) (C := RX4) (T := TX4) (N := 6) hx hb hts hinX4 hown hK hP 0 rfl rfl 3 (by decide) (hts (.fieldLink RX4 31 "TypingTutor" "current" "LTypingTutor$Lesson;") (List.mem_of_getElem? (i := 1) rfl)) (fun _ h9 => h9) rfl dX4_tryLetter_25 ?_
          refine zci (zrV (As := []) (rest := []) ⟨hx, hb, hml, hown, hts⟩ (zV 11 hP hD hK hE hB hS rfl rfl) (c_X2_letterBefore  (by omega) (by omega)) (cwV 0 hts gX4_tryLetter_X2_letterBefore rfl rfl rfl hdv_X2_letterBefore ⟨Nat.le_of_ble_eq_true rfl, Nat.le_of_ble_eq_true rfl⟩) rfl rfl hl.1 rfl (lv_room (Nat.le_of_ble_eq_true rfl)) dX4_tryLetter_28 ⟨Nat.le_of_ble_eq_true rfl, Nat.le_of_ble_eq_true rfl⟩) hS (fun H locs hP hD hS => ?_)
          have hP : va_P D vwCl (zWT cI cJ h (n, L) (kt, km, kl) (pt, pm, pl) (nu, le, ow, fo, run, wc, lc, tr, cl, tm, 0) (yl, yc, yt, co, pa, su, sc) mc ++ R) _ := hP
          have hD : va_D (zAb B) (zWT cI cJ h (n, L) (kt, km, kl) (pt, pm, pl) (nu, le, ow, fo, run, wc, lc, tr, cl, tm, 0) (yl, yc, yt, co, pa, su, sc) mc ++ R) := hD
          rw [show (zis le ow lc tr (nI tr - 1)) = (-1) from ho]
          refine lv_istore (lv' := [(4, .int (-1)), (3, .int (nI x)), (2, .int 1), (0, .ref (h 0)), (1, .int time)]) hx hb dX4_tryLetter_31 hl (by decide) rfl (fun ls hl => ?_)
          refine lv_aload_n hx hb dX4_tryLetter_33 rfl (lv_at hl 3 rfl) ?_
          refine va_get (ci := 4) (v := .ref (h 3)) (C := RX4) (T := TX4) (N := 6) hx hb hts hinX4 hown hK hP 0 rfl rfl 1 (by decide) (hts (.fieldLink RX4 21 "TypingTutor" "keys" "LTypingTutor$Knowledge;") (List.mem_of_getElem? (i := 2) rfl)) (fun _ h9 => h9) rfl dX4_tryLetter_34 ?_
          refine lv_iload_n hx hb dX4_tryLetter_37 rfl (lv_at hl 1 rfl) ?_
          refine lv_iload_n hx hb dX4_tryLetter_38 rfl (lv_at hl 2 rfl) ?_
          refine lv_iload_n hx hb dX4_tryLetter_39 rfl (lv_at hl 4 rfl) ?_
          refine zcv (zrV (As := [.int (nI x), .int 1, .int time]) (rest := []) ⟨hx, hb, hml, hown, hts⟩ (zV 3 hP hD hK hE hB hS rfl rfl) (c_X1_learn_k (k := x) (b := true) (by omega)) (cwV 3 hts gX4_tryLetter_X1_learn rfl rfl rfl hdv_X1_learn ⟨Nat.le_of_ble_eq_true rfl, Nat.le_of_ble_eq_true rfl⟩) rfl rfl hl.1 rfl (lv_room (Nat.le_of_ble_eq_true rfl)) dX4_tryLetter_40 ⟨Nat.le_of_ble_eq_true rfl, Nat.le_of_ble_eq_true rfl⟩) hS (fun H locs hP hD hS => ?_)
          have hP : va_P D vwCl (zWT cI cJ h (n, L) ((zkt kt x), (zkm true km x), (zkl true kl x time)) (pt, pm, pl) (nu, le, ow, fo, run, wc, lc, tr, cl, tm, 0) (yl, yc, yt, co, pa, su, sc) mc ++ R) _ := hP
          have hD : va_D (zAb B) (zWT cI cJ h (n, L) ((zkt kt x), (zkm true km x), (zkl true kl x time)) (pt, pm, pl) (nu, le, ow, fo, run, wc, lc, tr, cl, tm, 0) (yl, yc, yt, co, pa, su, sc) mc ++ R) := hD
          refine lv_iload hx hb dX4_tryLetter_43 (lv_at hl 0 rfl) ?_
          refine lv_iconst (v := (-1)) hx hb dX4_tryLetter_45 (by decide) ?_
          refine lv_icmp_eq (tgt := 64) hx hb dX4_tryLetter_46 (by decide) (fun c_5 => ?_) (fun c_5 => ?_)
          · skip
            refine lv_aload_n hx hb dX4_tryLetter_64 rfl (lv_at hl 3 rfl) ?_
            refine va_get (ci := 4) (v := .ref (h 11)) (C := RX4) (T := TX4) (N := 6) hx hb hts hinX4 hown hK hP 0 rfl rfl 3 (by decide) (hts (.fieldLink RX4 31 "TypingTutor" "current" "LTypingTutor$Lesson;") (List.mem_of_getElem? (i := 1) rfl)) (fun _ h9 => h9) rfl dX4_tryLetter_65 ?_
            refine lv_iload_n hx hb dX4_tryLetter_68 rfl (lv_at hl 2 rfl) ?_
            refine zcv (zrV (As := [.int 1]) (rest := []) ⟨hx, hb, hml, hown, hts⟩ (zV 11 hP hD hK hE hB hS rfl rfl) (c_X2_goOn_1  ) (cwV 1 hts gX4_tryLetter_X2_goOn rfl rfl rfl hdv_X2_goOn ⟨Nat.le_of_ble_eq_true rfl, Nat.le_of_ble_eq_true rfl⟩) rfl rfl hl.1 rfl (lv_room (Nat.le_of_ble_eq_true rfl)) dX4_tryLetter_69 ⟨Nat.le_of_ble_eq_true rfl, Nat.le_of_ble_eq_true rfl⟩) hS (fun H locs hP hD hS => ?_)
            have hP : va_P D vwCl (zWT cI cJ h (n, L) ((zkt kt x), (zkm true km x), (zkl true kl x time)) (pt, pm, pl) (nu, le, ow, fo, run, wc, lc, (tr + 1), (cl + 1), tm, 0) (yl, yc, yt, co, pa, su, sc) mc ++ R) _ := hP
            have hD : va_D (zAb B) (zWT cI cJ h (n, L) ((zkt kt x), (zkm true km x), (zkl true kl x time)) (pt, pm, pl) (nu, le, ow, fo, run, wc, lc, (tr + 1), (cl + 1), tm, 0) (yl, yc, yt, co, pa, su, sc) mc ++ R) := hD
            refine lv_aload_n hx hb dX4_tryLetter_72 rfl (lv_at hl 3 rfl) ?_
            refine va_get (ci := 4) (v := .ref (h 11)) (C := RX4) (T := TX4) (N := 6) hx hb hts hinX4 hown hK hP 0 rfl rfl 3 (by decide) (hts (.fieldLink RX4 31 "TypingTutor" "current" "LTypingTutor$Lesson;") (List.mem_of_getElem? (i := 1) rfl)) (fun _ h9 => h9) rfl dX4_tryLetter_73 ?_
            refine zci (zrV (As := []) (rest := []) ⟨hx, hb, hml, hown, hts⟩ (zV 11 hP hD hK hE hB hS rfl rfl) (c_X2_triedTotal  ) (cwV 0 hts gX4_tryLetter_X2_triedTotal rfl rfl rfl hdv_X2_triedTotal ⟨Nat.le_of_ble_eq_true rfl, Nat.le_of_ble_eq_true rfl⟩) rfl rfl hl.1 rfl (lv_room (Nat.le_of_ble_eq_true rfl)) dX4_tryLetter_76 ⟨Nat.le_of_ble_eq_true rfl, Nat.le_of_ble_eq_true rfl⟩) hS (fun H locs hP hD hS => ?_)
            have hP : va_P D vwCl (zWT cI cJ h (n, L) ((zkt kt x), (zkm true km x), (zkl true kl x time)) (pt, pm, pl) (nu, le, ow, fo, run, wc, lc, (tr + 1), (cl + 1), tm, 0) (yl, yc, yt, co, pa, su, sc) mc ++ R) _ := hP
            have hD : va_D (zAb B) (zWT cI cJ h (n, L) ((zkt kt x), (zkm true km x), (zkl true kl x time)) (pt, pm, pl) (nu, le, ow, fo, run, wc, lc, (tr + 1), (cl + 1), tm, 0) (yl, yc, yt, co, pa, su, sc) mc ++ R) := hD
            refine lv_aload_n hx hb dX4_tryLetter_79 rfl (lv_at hl 3 rfl) ?_
            refine va_get (ci := 4) (v := .ref (h 11)) (C := RX4) (T := TX4) (N := 6) hx hb hts hinX4 hown hK hP 0 rfl rfl 3 (by decide) (hts (.fieldLink RX4 31 "TypingTutor" "current" "LTypingTutor$Lesson;") (List.mem_of_getElem? (i := 1) rfl)) (fun _ h9 => h9) rfl dX4_tryLetter_80 ?_
            refine zci (zrV (As := []) (rest := [.int (nI (tr + 1))]) ⟨hx, hb, hml, hown, hts⟩ (zV 11 hP hD hK hE hB hS rfl rfl) (c_X2_letterTotal  ) (cwV 0 hts gX4_tryLetter_X2_letterTotal rfl rfl rfl hdv_X2_letterTotal ⟨Nat.le_of_ble_eq_true rfl, Nat.le_of_ble_eq_true rfl⟩) rfl rfl hl.1 rfl (lv_room (Nat.le_of_ble_eq_true rfl)) dX4_tryLetter_83 ⟨Nat.le_of_ble_eq_true rfl, Nat.le_of_ble_eq_true rfl⟩) hS (fun H locs hP hD hS => ?_)
            have hP : va_P D vwCl (zWT cI cJ h (n, L) ((zkt kt x), (zkm true km x), (zkl true kl x time)) (pt, pm, pl) (nu, le, ow, fo, run, wc, lc, (tr + 1), (cl + 1), tm, 0) (yl, yc, yt, co, pa, su, sc) mc ++ R) _ := hP
            have hD : va_D (zAb B) (zWT cI cJ h (n, L) ((zkt kt x), (zkm true km x), (zkl true kl x time)) (pt, pm, pl) (nu, le, ow, fo, run, wc, lc, (tr + 1), (cl + 1), tm, 0) (yl, yc, yt, co, pa, su, sc) mc ++ R) := hD
            refine lv_icmp_lt (tgt := 124) hx hb dX4_tryLetter_86 (by decide) (fun c_6 => ?_) (fun c_6 => ?_)
            · skip
              have c_6 : (tr + 1) < lc := (nI_ltI (a := (tr + 1)) (b := lc) (by omega) (by omega)).mp c_6
              exact W.vret hx hb hr (fun t ht hW => ⟨⟨(), rfl, trivial, by rw [ht]; exact hP, hD⟩, hS.F ht⟩) hS.2.2 dX4_tryLetter_124
            · skip
              have c_6 : ¬ (tr + 1) < lc := fun hh => c_6 ((nI_ltI (a := (tr + 1)) (b := lc) (by omega) (by omega)).mpr hh)
              omega
          · skip
            exfalso; first | omega | (revert c_5; decide) | (exact absurd rfl c_5) | simp_all
    | some o9 =>
      cases fin with
      | true =>
        refine Met.ofW (cc := cX4_tryLetter) (maxL := 5) (ret := none) (by decide) rfl ?_
        intro p e s m args below meth c s₁ B0 hml hv
        obtain ⟨rfl, hP, hD, hK, hE, hB⟩ := hv
        have hx := B0.exec
        have hb := B0.bytes
        have hr := B0.returns
        have hts := atoms_spec (ws := wsX4_tryLetter) B0.pre
        have hown : s.vm.findClass RX4 = some m.cls := findClass_of_methodNamed B0.named
        have hlocks := B0.notSynchronized
        have hA : ∀ q : Nat, s.heap.size ≤ q → zAb B q := fun q hq => Nat.le_trans hB hq
        have hS : va_S (zAb B) s.heap s.heap [] := va_S.rf
        have hgr : s.heap.size ≤ s.heap.size := Nat.le_refl _
        have hl := lv_entry ([.ref (h 0), .int time]) (n := 5) (Nat.le_of_ble_eq_true rfl)
        rw [lg_entry_eq]
        generalize (lg_sl ([.ref (h 0), .int time]) ++ List.replicate (5 - (lg_sl ([.ref (h 0), .int time])).length) Slot.unset).toArray = ls at hl ⊢
        have hl : lv_has ls 5 [(0, .ref (h 0)), (1, .int time)] := hl
        have hinX4 : ∀ w ∈ wsX40, w ∈ wsX4_tryLetter := fun _ h => List.mem_cons_of_mem _ (List.mem_append_left _ (List.mem_append_left _ (List.mem_append_left _ (List.mem_append_right _ h))))
        have hP : va_P D vwCl (zWT cI cJ h (n, L) (kt, km, kl) (pt, pm, pl) (nu, le, ow, fo, run, wc, lc, tr, cl, tm, 0) (yl, yc, yt, co, pa, su, sc) mc ++ R) s.heap := hP
        have hD : va_D (zAb B) (zWT cI cJ h (n, L) (kt, km, kl) (pt, pm, pl) (nu, le, ow, fo, run, wc, lc, tr, cl, tm, 0) (yl, yc, yt, co, pa, su, sc) mc ++ R) := hD
        have hy : o9 < 26 := hoy o9 rfl
        have hf : tr + 1 = lc := hf
        refine lv_aload_n hx hb dX4_tryLetter_0 rfl (lv_at hl 0 rfl) ?_
        refine va_get (ci := 4) (v := .ref (h 11)) (C := RX4) (T := TX4) (N := 6) hx hb hts hinX4 hown hK hP 0 rfl rfl 3 (by decide) (hts (.fieldLink RX4 31 "TypingTutor" "current" "LTypingTutor$Lesson;") (List.mem_of_getElem? (i := 1) rfl)) (fun _ h9 => h9) rfl dX4_tryLetter_1 ?_
        refine zci (zrV (As := []) (rest := []) ⟨hx, hb, hml, hown, hts⟩ (zV 11 hP hD hK hE hB hS rfl rfl) (c_X2_mistakesHere  ) (cwV 0 hts gX4_tryLetter_X2_mistakesHere rfl rfl rfl hdv_X2_mistakesHere ⟨Nat.le_of_ble_eq_true rfl, Nat.le_of_ble_eq_true rfl⟩) rfl rfl hl.1 rfl (lv_room (Nat.le_of_ble_eq_true rfl)) dX4_tryLetter_4 ⟨Nat.le_of_ble_eq_true rfl, Nat.le_of_ble_eq_true rfl⟩) hS (fun H locs hP hD hS => ?_)
        have hP : va_P D vwCl (zWT cI cJ h (n, L) (kt, km, kl) (pt, pm, pl) (nu, le, ow, fo, run, wc, lc, tr, cl, tm, 0) (yl, yc, yt, co, pa, su, sc) mc ++ R) _ := hP
        have hD : va_D (zAb B) (zWT cI cJ h (n, L) (kt, km, kl) (pt, pm, pl) (nu, le, ow, fo, run, wc, lc, tr, cl, tm, 0) (yl, yc, yt, co, pa, su, sc) mc ++ R) := hD
        refine lv_if_ne (tgt := 14) hx hb dX4_tryLetter_7 (by decide) (fun c_7 => ?_) (fun c_7 => ?_)
        · skip
          exfalso; first | omega | (revert c_7; decide) | (exact absurd rfl c_7) | simp_all
        · skip
          refine lv_iconst (v := 1) hx hb dX4_tryLetter_10 (by decide) ?_
          refine lv_goto (tgt := 15) hx hb dX4_tryLetter_11 (by decide) ?_
          refine lv_istore_n (lv' := [(2, .int 1), (0, .ref (h 0)), (1, .int time)]) hx hb dX4_tryLetter_15 rfl hl (by decide) rfl (fun ls hl => ?_)
          refine lv_aload_n hx hb dX4_tryLetter_16 rfl (lv_at hl 1 rfl) ?_
          refine va_get (ci := 4) (v := .ref (h 11)) (C := RX4) (T := TX4) (N := 6) hx hb hts hinX4 hown hK hP 0 rfl rfl 3 (by decide) (hts (.fieldLink RX4 31 "TypingTutor" "current" "LTypingTutor$Lesson;") (List.mem_of_getElem? (i := 1) rfl)) (fun _ h9 => h9) rfl dX4_tryLetter_17 ?_
          refine zci (zrV (As := []) (rest := []) ⟨hx, hb, hml, hown, hts⟩ (zV 11 hP hD hK hE hB hS rfl rfl) (c_X2_letterHere  (by omega)) (cwV 0 hts gX4_tryLetter_X2_letterHere rfl rfl rfl hdv_X2_letterHere ⟨Nat.le_of_ble_eq_true rfl, Nat.le_of_ble_eq_true rfl⟩) rfl rfl hl.1 rfl (lv_room (Nat.le_of_ble_eq_true rfl)) dX4_tryLetter_20 ⟨Nat.le_of_ble_eq_true rfl, Nat.le_of_ble_eq_true rfl⟩) hS (fun H locs hP hD hS => ?_)
          have hP : va_P D vwCl (zWT cI cJ h (n, L) (kt, km, kl) (pt, pm, pl) (nu, le, ow, fo, run, wc, lc, tr, cl, tm, 0) (yl, yc, yt, co, pa, su, sc) mc ++ R) _ := hP
          have hD : va_D (zAb B) (zWT cI cJ h (n, L) (kt, km, kl) (pt, pm, pl) (nu, le, ow, fo, run, wc, lc, tr, cl, tm, 0) (yl, yc, yt, co, pa, su, sc) mc ++ R) := hD
          rw [show (le tr) = (nI x) from hx9]
          refine lv_istore_n (lv' := [(3, .int (nI x)), (2, .int 1), (0, .ref (h 0)), (1, .int time)]) hx hb dX4_tryLetter_23 rfl hl (by decide) rfl (fun ls hl => ?_)
          refine lv_aload_n hx hb dX4_tryLetter_24 rfl (lv_at hl 2 rfl) ?_
          refine va_get (ci := 4) (v := .ref (h 11)) (C := RX4) (T := TX4) (N := 6) hx hb hts hinX4 hown hK hP 0 rfl rfl 3 (by decide) (hts (.fieldLink RX4 31 "TypingTutor" "current" "LTypingTutor$Lesson;") (List.mem_of_getElem? (i := 1) rfl)) (fun _ h9 => h9) rfl dX4_tryLetter_25 ?_
          refine zci (zrV (As := []) (rest := []) ⟨hx, hb, hml, hown, hts⟩ (zV 11 hP hD hK hE hB hS rfl rfl) (c_X2_letterBefore  (by omega) (by omega)) (cwV 0 hts gX4_tryLetter_X2_letterBefore rfl rfl rfl hdv_X2_letterBefore ⟨Nat.le_of_ble_eq_true rfl, Nat.le_of_ble_eq_true rfl⟩) rfl rfl hl.1 rfl (lv_room (Nat.le_of_ble_eq_true rfl)) dX4_tryLetter_28 ⟨Nat.le_of_ble_eq_true rfl, Nat.le_of_ble_eq_true rfl⟩) hS (fun H locs hP hD hS => ?_)
          have hP : va_P D vwCl (zWT cI cJ h (n, L) (kt, km, kl) (pt, pm, pl) (nu, le, ow, fo, run, wc, lc, tr, cl, tm, 0) (yl, yc, yt, co, pa, su, sc) mc ++ R) _ := hP
          have hD : va_D (zAb B) (zWT cI cJ h (n, L) (kt, km, kl) (pt, pm, pl) (nu, le, ow, fo, run, wc, lc, tr, cl, tm, 0) (yl, yc, yt, co, pa, su, sc) mc ++ R) := hD
          rw [show (zis le ow lc tr (nI tr - 1)) = (nI o9) from ho]
          refine lv_istore (lv' := [(4, .int (nI o9)), (3, .int (nI x)), (2, .int 1), (0, .ref (h 0)), (1, .int time)]) hx hb dX4_tryLetter_31 hl (by decide) rfl (fun ls hl => ?_)
          refine lv_aload_n hx hb dX4_tryLetter_33 rfl (lv_at hl 3 rfl) ?_
          refine va_get (ci := 4) (v := .ref (h 3)) (C := RX4) (T := TX4) (N := 6) hx hb hts hinX4 hown hK hP 0 rfl rfl 1 (by decide) (hts (.fieldLink RX4 21 "TypingTutor" "keys" "LTypingTutor$Knowledge;") (List.mem_of_getElem? (i := 2) rfl)) (fun _ h9 => h9) rfl dX4_tryLetter_34 ?_
          refine lv_iload_n hx hb dX4_tryLetter_37 rfl (lv_at hl 1 rfl) ?_
          refine lv_iload_n hx hb dX4_tryLetter_38 rfl (lv_at hl 2 rfl) ?_
          refine lv_iload_n hx hb dX4_tryLetter_39 rfl (lv_at hl 4 rfl) ?_
          refine zcv (zrV (As := [.int (nI x), .int 1, .int time]) (rest := []) ⟨hx, hb, hml, hown, hts⟩ (zV 3 hP hD hK hE hB hS rfl rfl) (c_X1_learn_k (k := x) (b := true) (by omega)) (cwV 3 hts gX4_tryLetter_X1_learn rfl rfl rfl hdv_X1_learn ⟨Nat.le_of_ble_eq_true rfl, Nat.le_of_ble_eq_true rfl⟩) rfl rfl hl.1 rfl (lv_room (Nat.le_of_ble_eq_true rfl)) dX4_tryLetter_40 ⟨Nat.le_of_ble_eq_true rfl, Nat.le_of_ble_eq_true rfl⟩) hS (fun H locs hP hD hS => ?_)
          have hP : va_P D vwCl (zWT cI cJ h (n, L) ((zkt kt x), (zkm true km x), (zkl true kl x time)) (pt, pm, pl) (nu, le, ow, fo, run, wc, lc, tr, cl, tm, 0) (yl, yc, yt, co, pa, su, sc) mc ++ R) _ := hP
          have hD : va_D (zAb B) (zWT cI cJ h (n, L) ((zkt kt x), (zkm true km x), (zkl true kl x time)) (pt, pm, pl) (nu, le, ow, fo, run, wc, lc, tr, cl, tm, 0) (yl, yc, yt, co, pa, su, sc) mc ++ R) := hD
          refine lv_iload hx hb dX4_tryLetter_43 (lv_at hl 0 rfl) ?_
          refine lv_iconst (v := (-1)) hx hb dX4_tryLetter_45 (by decide) ?_
          refine lv_icmp_eq (tgt := 64) hx hb dX4_tryLetter_46 (by decide) (fun c_8 => ?_) (fun c_8 => ?_)
          · skip
            exact absurd c_8 (nI_m1 (by omega))
          · skip
            refine lv_aload_n hx hb dX4_tryLetter_49 rfl (lv_at hl 3 rfl) ?_
            refine va_get (ci := 4) (v := .ref (h 7)) (C := RX4) (T := TX4) (N := 6) hx hb hts hinX4 hown hK hP 0 rfl rfl 2 (by decide) (hts (.fieldLink RX4 25 "TypingTutor" "pairs" "LTypingTutor$Knowledge;") (List.mem_of_getElem? (i := 3) rfl)) (fun _ h9 => h9) rfl dX4_tryLetter_50 ?_
            refine lv_iload hx hb dX4_tryLetter_53 (lv_at hl 0 rfl) ?_
            refine lv_iload_n hx hb dX4_tryLetter_55 rfl (lv_at hl 1 rfl) ?_
            refine zci (zrS (As := [.int (nI o9), .int (nI x)]) (rest := [.ref (h 7)]) ⟨hx, hb, hml, hown, hts⟩ (zS hP hD hK hE hB hS) (c_X4_pairOf  ) (va_cwS 2 hts gX4_tryLetter_X4_pairOf rfl rfl rfl hds_X4_pairOf ⟨Nat.le_of_ble_eq_true rfl, Nat.le_of_ble_eq_true rfl⟩) rfl rfl hl.1 rfl (lv_room (Nat.le_of_ble_eq_true rfl)) dX4_tryLetter_56 ⟨Nat.le_of_ble_eq_true rfl, Nat.le_of_ble_eq_true rfl⟩) hS (fun H locs hP hD hS => ?_)
            have hP : va_P D vwCl (zWT cI cJ h (n, L) ((zkt kt x), (zkm true km x), (zkl true kl x time)) (pt, pm, pl) (nu, le, ow, fo, run, wc, lc, tr, cl, tm, 0) (yl, yc, yt, co, pa, su, sc) mc ++ R) _ := hP
            have hD : va_D (zAb B) (zWT cI cJ h (n, L) ((zkt kt x), (zkm true km x), (zkl true kl x time)) (pt, pm, pl) (nu, le, ow, fo, run, wc, lc, tr, cl, tm, 0) (yl, yc, yt, co, pa, su, sc) mc ++ R) := hD
            rw [show (26 * (nI o9) + (nI x)) = (nI (26 * o9 + x)) from (by rw [show (26 : Int32) = nI 26 from rfl, pk_mul, nI_add])]
            refine lv_iload_n hx hb dX4_tryLetter_59 rfl (lv_at hl 2 rfl) ?_
            refine lv_iload_n hx hb dX4_tryLetter_60 rfl (lv_at hl 4 rfl) ?_
            refine zcv (zrV (As := [.int (nI (26 * o9 + x)), .int 1, .int time]) (rest := []) ⟨hx, hb, hml, hown, hts⟩ (zV 7 hP hD hK hE hB hS rfl rfl) (c_X1_learn_p (k := (26 * o9 + x)) (b := true) (by omega)) (cwV 3 hts gX4_tryLetter_X1_learn rfl rfl rfl hdv_X1_learn ⟨Nat.le_of_ble_eq_true rfl, Nat.le_of_ble_eq_true rfl⟩) rfl rfl hl.1 rfl (lv_room (Nat.le_of_ble_eq_true rfl)) dX4_tryLetter_61 ⟨Nat.le_of_ble_eq_true rfl, Nat.le_of_ble_eq_true rfl⟩) hS (fun H locs hP hD hS => ?_)
            have hP : va_P D vwCl (zWT cI cJ h (n, L) ((zkt kt x), (zkm true km x), (zkl true kl x time)) ((zkt pt (26 * o9 + x)), (zkm true pm (26 * o9 + x)), (zkl true pl (26 * o9 + x) time)) (nu, le, ow, fo, run, wc, lc, tr, cl, tm, 0) (yl, yc, yt, co, pa, su, sc) mc ++ R) _ := hP
            have hD : va_D (zAb B) (zWT cI cJ h (n, L) ((zkt kt x), (zkm true km x), (zkl true kl x time)) ((zkt pt (26 * o9 + x)), (zkm true pm (26 * o9 + x)), (zkl true pl (26 * o9 + x) time)) (nu, le, ow, fo, run, wc, lc, tr, cl, tm, 0) (yl, yc, yt, co, pa, su, sc) mc ++ R) := hD
            refine lv_aload_n hx hb dX4_tryLetter_64 rfl (lv_at hl 3 rfl) ?_
            refine va_get (ci := 4) (v := .ref (h 11)) (C := RX4) (T := TX4) (N := 6) hx hb hts hinX4 hown hK hP 0 rfl rfl 3 (by decide) (hts (.fieldLink RX4 31 "TypingTutor" "current" "LTypingTutor$Lesson;") (List.mem_of_getElem? (i := 1) rfl)) (fun _ h9 => h9) rfl dX4_tryLetter_65 ?_
            refine lv_iload_n hx hb dX4_tryLetter_68 rfl (lv_at hl 2 rfl) ?_
            refine zcv (zrV (As := [.int 1]) (rest := []) ⟨hx, hb, hml, hown, hts⟩ (zV 11 hP hD hK hE hB hS rfl rfl) (c_X2_goOn_1  ) (cwV 1 hts gX4_tryLetter_X2_goOn rfl rfl rfl hdv_X2_goOn ⟨Nat.le_of_ble_eq_true rfl, Nat.le_of_ble_eq_true rfl⟩) rfl rfl hl.1 rfl (lv_room (Nat.le_of_ble_eq_true rfl)) dX4_tryLetter_69 ⟨Nat.le_of_ble_eq_true rfl, Nat.le_of_ble_eq_true rfl⟩) hS (fun H locs hP hD hS => ?_)
            have hP : va_P D vwCl (zWT cI cJ h (n, L) ((zkt kt x), (zkm true km x), (zkl true kl x time)) ((zkt pt (26 * o9 + x)), (zkm true pm (26 * o9 + x)), (zkl true pl (26 * o9 + x) time)) (nu, le, ow, fo, run, wc, lc, (tr + 1), (cl + 1), tm, 0) (yl, yc, yt, co, pa, su, sc) mc ++ R) _ := hP
            have hD : va_D (zAb B) (zWT cI cJ h (n, L) ((zkt kt x), (zkm true km x), (zkl true kl x time)) ((zkt pt (26 * o9 + x)), (zkm true pm (26 * o9 + x)), (zkl true pl (26 * o9 + x) time)) (nu, le, ow, fo, run, wc, lc, (tr + 1), (cl + 1), tm, 0) (yl, yc, yt, co, pa, su, sc) mc ++ R) := hD
            refine lv_aload_n hx hb dX4_tryLetter_72 rfl (lv_at hl 3 rfl) ?_
            refine va_get (ci := 4) (v := .ref (h 11)) (C := RX4) (T := TX4) (N := 6) hx hb hts hinX4 hown hK hP 0 rfl rfl 3 (by decide) (hts (.fieldLink RX4 31 "TypingTutor" "current" "LTypingTutor$Lesson;") (List.mem_of_getElem? (i := 1) rfl)) (fun _ h9 => h9) rfl dX4_tryLetter_73 ?_
            refine zci (zrV (As := []) (rest := []) ⟨hx, hb, hml, hown, hts⟩ (zV 11 hP hD hK hE hB hS rfl rfl) (c_X2_triedTotal  ) (cwV 0 hts gX4_tryLetter_X2_triedTotal rfl rfl rfl hdv_X2_triedTotal ⟨Nat.le_of_ble_eq_true rfl, Nat.le_of_ble_eq_true rfl⟩) rfl rfl hl.1 rfl (lv_room (Nat.le_of_ble_eq_true rfl)) dX4_tryLetter_76 ⟨Nat.le_of_ble_eq_true rfl, Nat.le_of_ble_eq_true rfl⟩) hS (fun H locs hP hD hS => ?_)
            have hP : va_P D vwCl (zWT cI cJ h (n, L) ((zkt kt x), (zkm true km x), (zkl true kl x time)) ((zkt pt (26 * o9 + x)), (zkm true pm (26 * o9 + x)), (zkl true pl (26 * o9 + x) time)) (nu, le, ow, fo, run, wc, lc, (tr + 1), (cl + 1), tm, 0) (yl, yc, yt, co, pa, su, sc) mc ++ R) _ := hP
            have hD : va_D (zAb B) (zWT cI cJ h (n, L) ((zkt kt x), (zkm true km x), (zkl true kl x time)) ((zkt pt (26 * o9 + x)), (zkm true pm (26 * o9 + x)), (zkl true pl (26 * o9 + x) time)) (nu, le, ow, fo, run, wc, lc, (tr + 1), (cl + 1), tm, 0) (yl, yc, yt, co, pa, su, sc) mc ++ R) := hD
            refine lv_aload_n hx hb dX4_tryLetter_79 rfl (lv_at hl 3 rfl) ?_
            refine va_get (ci := 4) (v := .ref (h 11)) (C := RX4) (T := TX4) (N := 6) hx hb hts hinX4 hown hK hP 0 rfl rfl 3 (by decide) (hts (.fieldLink RX4 31 "TypingTutor" "current" "LTypingTutor$Lesson;") (List.mem_of_getElem? (i := 1) rfl)) (fun _ h9 => h9) rfl dX4_tryLetter_80 ?_
            refine zci (zrV (As := []) (rest := [.int (nI (tr + 1))]) ⟨hx, hb, hml, hown, hts⟩ (zV 11 hP hD hK hE hB hS rfl rfl) (c_X2_letterTotal  ) (cwV 0 hts gX4_tryLetter_X2_letterTotal rfl rfl rfl hdv_X2_letterTotal ⟨Nat.le_of_ble_eq_true rfl, Nat.le_of_ble_eq_true rfl⟩) rfl rfl hl.1 rfl (lv_room (Nat.le_of_ble_eq_true rfl)) dX4_tryLetter_83 ⟨Nat.le_of_ble_eq_true rfl, Nat.le_of_ble_eq_true rfl⟩) hS (fun H locs hP hD hS => ?_)
            have hP : va_P D vwCl (zWT cI cJ h (n, L) ((zkt kt x), (zkm true km x), (zkl true kl x time)) ((zkt pt (26 * o9 + x)), (zkm true pm (26 * o9 + x)), (zkl true pl (26 * o9 + x) time)) (nu, le, ow, fo, run, wc, lc, (tr + 1), (cl + 1), tm, 0) (yl, yc, yt, co, pa, su, sc) mc ++ R) _ := hP
            have hD : va_D (zAb B) (zWT cI cJ h (n, L) ((zkt kt x), (zkm true km x), (zkl true kl x time)) ((zkt pt (26 * o9 + x)), (zkm true pm (26 * o9 + x)), (zkl true pl (26 * o9 + x) time)) (nu, le, ow, fo, run, wc, lc, (tr + 1), (cl + 1), tm, 0) (yl, yc, yt, co, pa, su, sc) mc ++ R) := hD
            refine lv_icmp_lt (tgt := 124) hx hb dX4_tryLetter_86 (by decide) (fun c_9 => ?_) (fun c_9 => ?_)
            · skip
              have c_9 : (tr + 1) < lc := (nI_ltI (a := (tr + 1)) (b := lc) (by omega) (by omega)).mp c_9
              omega
            · skip
              have c_9 : ¬ (tr + 1) < lc := fun hh => c_9 ((nI_ltI (a := (tr + 1)) (b := lc) (by omega) (by omega)).mpr hh)
              refine lv_aload_n hx hb dX4_tryLetter_89 rfl (lv_at hl 3 rfl) ?_
              refine va_get (ci := 4) (v := .ref (h 11)) (C := RX4) (T := TX4) (N := 6) hx hb hts hinX4 hown hK hP 0 rfl rfl 3 (by decide) (hts (.fieldLink RX4 31 "TypingTutor" "current" "LTypingTutor$Lesson;") (List.mem_of_getElem? (i := 1) rfl)) (fun _ h9 => h9) rfl dX4_tryLetter_90 ?_
              refine zcv (zrV (As := []) (rest := []) ⟨hx, hb, hml, hown, hts⟩ (zV 11 hP hD hK hE hB hS rfl rfl) (c_X2_stop  ) (cwV 0 hts gX4_tryLetter_X2_stop rfl rfl rfl hdv_X2_stop ⟨Nat.le_of_ble_eq_true rfl, Nat.le_of_ble_eq_true rfl⟩) rfl rfl hl.1 rfl (lv_room (Nat.le_of_ble_eq_true rfl)) dX4_tryLetter_93 ⟨Nat.le_of_ble_eq_true rfl, Nat.le_of_ble_eq_true rfl⟩) hS (fun H locs hP hD hS => ?_)
              have hP : va_P D vwCl (zWT cI cJ h (n, L) ((zkt kt x), (zkm true km x), (zkl true kl x time)) ((zkt pt (26 * o9 + x)), (zkm true pm (26 * o9 + x)), (zkl true pl (26 * o9 + x) time)) (nu, le, ow, fo, false, wc, lc, (tr + 1), (cl + 1), tm, 0) (yl, yc, yt, co, pa, su, sc) mc ++ R) _ := hP
              have hD : va_D (zAb B) (zWT cI cJ h (n, L) ((zkt kt x), (zkm true km x), (zkl true kl x time)) ((zkt pt (26 * o9 + x)), (zkm true pm (26 * o9 + x)), (zkl true pl (26 * o9 + x) time)) (nu, le, ow, fo, false, wc, lc, (tr + 1), (cl + 1), tm, 0) (yl, yc, yt, co, pa, su, sc) mc ++ R) := hD
              refine lv_aload_n hx hb dX4_tryLetter_96 rfl (lv_at hl 3 rfl) ?_
              refine va_get (ci := 4) (v := .ref (h 16)) (C := RX4) (T := TX4) (N := 6) hx hb hts hinX4 hown hK hP 0 rfl rfl 4 (by decide) (hts (.fieldLink RX4 38 "TypingTutor" "past" "LTypingTutor$History;") (List.mem_of_getElem? (i := 4) rfl)) (fun _ h9 => h9) rfl dX4_tryLetter_97 ?_
              refine lv_aload_n hx hb dX4_tryLetter_100 rfl (lv_at hl 3 rfl) ?_
              refine va_get (ci := 4) (v := .ref (h 11)) (C := RX4) (T := TX4) (N := 6) hx hb hts hinX4 hown hK hP 0 rfl rfl 3 (by decide) (hts (.fieldLink RX4 31 "TypingTutor" "current" "LTypingTutor$Lesson;") (List.mem_of_getElem? (i := 1) rfl)) (fun _ h9 => h9) rfl dX4_tryLetter_101 ?_
              refine zci (zrV (As := []) (rest := [.ref (h 16)]) ⟨hx, hb, hml, hown, hts⟩ (zV 11 hP hD hK hE hB hS rfl rfl) (c_X2_letterTotal  ) (cwV 0 hts gX4_tryLetter_X2_letterTotal rfl rfl rfl hdv_X2_letterTotal ⟨Nat.le_of_ble_eq_true rfl, Nat.le_of_ble_eq_true rfl⟩) rfl rfl hl.1 rfl (lv_room (Nat.le_of_ble_eq_true rfl)) dX4_tryLetter_104 ⟨Nat.le_of_ble_eq_true rfl, Nat.le_of_ble_eq_true rfl⟩) hS (fun H locs hP hD hS => ?_)
              have hP : va_P D vwCl (zWT cI cJ h (n, L) ((zkt kt x), (zkm true km x), (zkl true kl x time)) ((zkt pt (26 * o9 + x)), (zkm true pm (26 * o9 + x)), (zkl true pl (26 * o9 + x) time)) (nu, le, ow, fo, false, wc, lc, (tr + 1), (cl + 1), tm, 0) (yl, yc, yt, co, pa, su, sc) mc ++ R) _ := hP
              have hD : va_D (zAb B) (zWT cI cJ h (n, L) ((zkt kt x), (zkm true km x), (zkl true kl x time)) ((zkt pt (26 * o9 + x)), (zkm true pm (26 * o9 + x)), (zkl true pl (26 * o9 + x) time)) (nu, le, ow, fo, false, wc, lc, (tr + 1), (cl + 1), tm, 0) (yl, yc, yt, co, pa, su, sc) mc ++ R) := hD
              refine lv_aload_n hx hb dX4_tryLetter_107 rfl (lv_at hl 3 rfl) ?_
              refine va_get (ci := 4) (v := .ref (h 11)) (C := RX4) (T := TX4) (N := 6) hx hb hts hinX4 hown hK hP 0 rfl rfl 3 (by decide) (hts (.fieldLink RX4 31 "TypingTutor" "current" "LTypingTutor$Lesson;") (List.mem_of_getElem? (i := 1) rfl)) (fun _ h9 => h9) rfl dX4_tryLetter_108 ?_
              refine zci (zrV (As := []) (rest := [.int (nI lc), .ref (h 16)]) ⟨hx, hb, hml, hown, hts⟩ (zV 11 hP hD hK hE hB hS rfl rfl) (c_X2_cleanTotal  ) (cwV 0 hts gX4_tryLetter_X2_cleanTotal rfl rfl rfl hdv_X2_cleanTotal ⟨Nat.le_of_ble_eq_true rfl, Nat.le_of_ble_eq_true rfl⟩) rfl rfl hl.1 rfl (lv_room (Nat.le_of_ble_eq_true rfl)) dX4_tryLetter_111 ⟨Nat.le_of_ble_eq_true rfl, Nat.le_of_ble_eq_true rfl⟩) hS (fun H locs hP hD hS => ?_)
              have hP : va_P D vwCl (zWT cI cJ h (n, L) ((zkt kt x), (zkm true km x), (zkl true kl x time)) ((zkt pt (26 * o9 + x)), (zkm true pm (26 * o9 + x)), (zkl true pl (26 * o9 + x) time)) (nu, le, ow, fo, false, wc, lc, (tr + 1), (cl + 1), tm, 0) (yl, yc, yt, co, pa, su, sc) mc ++ R) _ := hP
              have hD : va_D (zAb B) (zWT cI cJ h (n, L) ((zkt kt x), (zkm true km x), (zkl true kl x time)) ((zkt pt (26 * o9 + x)), (zkm true pm (26 * o9 + x)), (zkl true pl (26 * o9 + x) time)) (nu, le, ow, fo, false, wc, lc, (tr + 1), (cl + 1), tm, 0) (yl, yc, yt, co, pa, su, sc) mc ++ R) := hD
              refine lv_aload_n hx hb dX4_tryLetter_114 rfl (lv_at hl 3 rfl) ?_
              refine va_get (ci := 4) (v := .ref (h 11)) (C := RX4) (T := TX4) (N := 6) hx hb hts hinX4 hown hK hP 0 rfl rfl 3 (by decide) (hts (.fieldLink RX4 31 "TypingTutor" "current" "LTypingTutor$Lesson;") (List.mem_of_getElem? (i := 1) rfl)) (fun _ h9 => h9) rfl dX4_tryLetter_115 ?_
              refine zci (zrV (As := []) (rest := [.int (nI (cl + 1)), .int (nI lc), .ref (h 16)]) ⟨hx, hb, hml, hown, hts⟩ (zV 11 hP hD hK hE hB hS rfl rfl) (c_X2_timeSum  ) (cwV 0 hts gX4_tryLetter_X2_timeSum rfl rfl rfl hdv_X2_timeSum ⟨Nat.le_of_ble_eq_true rfl, Nat.le_of_ble_eq_true rfl⟩) rfl rfl hl.1 rfl (lv_room (Nat.le_of_ble_eq_true rfl)) dX4_tryLetter_118 ⟨Nat.le_of_ble_eq_true rfl, Nat.le_of_ble_eq_true rfl⟩) hS (fun H locs hP hD hS => ?_)
              have hP : va_P D vwCl (zWT cI cJ h (n, L) ((zkt kt x), (zkm true km x), (zkl true kl x time)) ((zkt pt (26 * o9 + x)), (zkm true pm (26 * o9 + x)), (zkl true pl (26 * o9 + x) time)) (nu, le, ow, fo, false, wc, lc, (tr + 1), (cl + 1), tm, 0) (yl, yc, yt, co, pa, su, sc) mc ++ R) _ := hP
              have hD : va_D (zAb B) (zWT cI cJ h (n, L) ((zkt kt x), (zkm true km x), (zkl true kl x time)) ((zkt pt (26 * o9 + x)), (zkm true pm (26 * o9 + x)), (zkl true pl (26 * o9 + x) time)) (nu, le, ow, fo, false, wc, lc, (tr + 1), (cl + 1), tm, 0) (yl, yc, yt, co, pa, su, sc) mc ++ R) := hD
              refine zcv (zrV (As := [.int (nI lc), .int (nI (cl + 1)), .int (nI tm)]) (rest := []) ⟨hx, hb, hml, hown, hts⟩ (zV 16 hP hD hK hE hB hS rfl rfl) (c_X0_keep (lt := lc) (ct := (cl + 1)) (ts := tm) (by omega) (by omega) (by omega)) (cwV 3 hts gX4_tryLetter_X0_keep rfl rfl rfl hdv_X0_keep ⟨Nat.le_of_ble_eq_true rfl, Nat.le_of_ble_eq_true rfl⟩) rfl rfl hl.1 rfl (lv_room (Nat.le_of_ble_eq_true rfl)) dX4_tryLetter_121 ⟨Nat.le_of_ble_eq_true rfl, Nat.le_of_ble_eq_true rfl⟩) hS (fun H locs hP hD hS => ?_)
              have hP : va_P D vwCl (zWT cI cJ h (n, L) ((zkt kt x), (zkm true km x), (zkl true kl x time)) ((zkt pt (26 * o9 + x)), (zkm true pm (26 * o9 + x)), (zkl true pl (26 * o9 + x) time)) (nu, le, ow, fo, false, wc, lc, (tr + 1), (cl + 1), tm, 0) ((upd yl co (nI lc)), (upd yc co (nI (cl + 1))), (upd yt co (nI tm)), (co + 1), (zpc pa lc (cl + 1)), (su + lc), (sc + (cl + 1))) mc ++ R) _ := hP
              have hD : va_D (zAb B) (zWT cI cJ h (n, L) ((zkt kt x), (zkm true km x), (zkl true kl x time)) ((zkt pt (26 * o9 + x)), (zkm true pm (26 * o9 + x)), (zkl true pl (26 * o9 + x) time)) (nu, le, ow, fo, false, wc, lc, (tr + 1), (cl + 1), tm, 0) ((upd yl co (nI lc)), (upd yc co (nI (cl + 1))), (upd yt co (nI tm)), (co + 1), (zpc pa lc (cl + 1)), (su + lc), (sc + (cl + 1))) mc ++ R) := hD
              exact W.vret hx hb hr (fun t ht hW => ⟨⟨(), rfl, trivial, by rw [ht]; exact hP, hD⟩, hS.F ht⟩) hS.2.2 dX4_tryLetter_124
      | false =>
        refine Met.ofW (cc := cX4_tryLetter) (maxL := 5) (ret := none) (by decide) rfl ?_
        intro p e s m args below meth c s₁ B0 hml hv
        obtain ⟨rfl, hP, hD, hK, hE, hB⟩ := hv
        have hx := B0.exec
        have hb := B0.bytes
        have hr := B0.returns
        have hts := atoms_spec (ws := wsX4_tryLetter) B0.pre
        have hown : s.vm.findClass RX4 = some m.cls := findClass_of_methodNamed B0.named
        have hlocks := B0.notSynchronized
        have hA : ∀ q : Nat, s.heap.size ≤ q → zAb B q := fun q hq => Nat.le_trans hB hq
        have hS : va_S (zAb B) s.heap s.heap [] := va_S.rf
        have hgr : s.heap.size ≤ s.heap.size := Nat.le_refl _
        have hl := lv_entry ([.ref (h 0), .int time]) (n := 5) (Nat.le_of_ble_eq_true rfl)
        rw [lg_entry_eq]
        generalize (lg_sl ([.ref (h 0), .int time]) ++ List.replicate (5 - (lg_sl ([.ref (h 0), .int time])).length) Slot.unset).toArray = ls at hl ⊢
        have hl : lv_has ls 5 [(0, .ref (h 0)), (1, .int time)] := hl
        have hinX4 : ∀ w ∈ wsX40, w ∈ wsX4_tryLetter := fun _ h => List.mem_cons_of_mem _ (List.mem_append_left _ (List.mem_append_left _ (List.mem_append_left _ (List.mem_append_right _ h))))
        have hP : va_P D vwCl (zWT cI cJ h (n, L) (kt, km, kl) (pt, pm, pl) (nu, le, ow, fo, run, wc, lc, tr, cl, tm, 0) (yl, yc, yt, co, pa, su, sc) mc ++ R) s.heap := hP
        have hD : va_D (zAb B) (zWT cI cJ h (n, L) (kt, km, kl) (pt, pm, pl) (nu, le, ow, fo, run, wc, lc, tr, cl, tm, 0) (yl, yc, yt, co, pa, su, sc) mc ++ R) := hD
        have hy : o9 < 26 := hoy o9 rfl
        have hf : tr + 1 < lc := hf
        refine lv_aload_n hx hb dX4_tryLetter_0 rfl (lv_at hl 0 rfl) ?_
        refine va_get (ci := 4) (v := .ref (h 11)) (C := RX4) (T := TX4) (N := 6) hx hb hts hinX4 hown hK hP 0 rfl rfl 3 (by decide) (hts (.fieldLink RX4 31 "TypingTutor" "current" "LTypingTutor$Lesson;") (List.mem_of_getElem? (i := 1) rfl)) (fun _ h9 => h9) rfl dX4_tryLetter_1 ?_
        refine zci (zrV (As := []) (rest := []) ⟨hx, hb, hml, hown, hts⟩ (zV 11 hP hD hK hE hB hS rfl rfl) (c_X2_mistakesHere  ) (cwV 0 hts gX4_tryLetter_X2_mistakesHere rfl rfl rfl hdv_X2_mistakesHere ⟨Nat.le_of_ble_eq_true rfl, Nat.le_of_ble_eq_true rfl⟩) rfl rfl hl.1 rfl (lv_room (Nat.le_of_ble_eq_true rfl)) dX4_tryLetter_4 ⟨Nat.le_of_ble_eq_true rfl, Nat.le_of_ble_eq_true rfl⟩) hS (fun H locs hP hD hS => ?_)
        have hP : va_P D vwCl (zWT cI cJ h (n, L) (kt, km, kl) (pt, pm, pl) (nu, le, ow, fo, run, wc, lc, tr, cl, tm, 0) (yl, yc, yt, co, pa, su, sc) mc ++ R) _ := hP
        have hD : va_D (zAb B) (zWT cI cJ h (n, L) (kt, km, kl) (pt, pm, pl) (nu, le, ow, fo, run, wc, lc, tr, cl, tm, 0) (yl, yc, yt, co, pa, su, sc) mc ++ R) := hD
        refine lv_if_ne (tgt := 14) hx hb dX4_tryLetter_7 (by decide) (fun c_10 => ?_) (fun c_10 => ?_)
        · skip
          exfalso; first | omega | (revert c_10; decide) | (exact absurd rfl c_10) | simp_all
        · skip
          refine lv_iconst (v := 1) hx hb dX4_tryLetter_10 (by decide) ?_
          refine lv_goto (tgt := 15) hx hb dX4_tryLetter_11 (by decide) ?_
          refine lv_istore_n (lv' := [(2, .int 1), (0, .ref (h 0)), (1, .int time)]) hx hb dX4_tryLetter_15 rfl hl (by decide) rfl (fun ls hl => ?_)
          refine lv_aload_n hx hb dX4_tryLetter_16 rfl (lv_at hl 1 rfl) ?_
          refine va_get (ci := 4) (v := .ref (h 11)) (C := RX4) (T := TX4) (N := 6) hx hb hts hinX4 hown hK hP 0 rfl rfl 3 (by decide) (hts (.fieldLink RX4 31 "TypingTutor" "current" "LTypingTutor$Lesson;") (List.mem_of_getElem? (i := 1) rfl)) (fun _ h9 => h9) rfl dX4_tryLetter_17 ?_
          refine zci (zrV (As := []) (rest := []) ⟨hx, hb, hml, hown, hts⟩ (zV 11 hP hD hK hE hB hS rfl rfl) (c_X2_letterHere  (by omega)) (cwV 0 hts gX4_tryLetter_X2_letterHere rfl rfl rfl hdv_X2_letterHere ⟨Nat.le_of_ble_eq_true rfl, Nat.le_of_ble_eq_true rfl⟩) rfl rfl hl.1 rfl (lv_room (Nat.le_of_ble_eq_true rfl)) dX4_tryLetter_20 ⟨Nat.le_of_ble_eq_true rfl, Nat.le_of_ble_eq_true rfl⟩) hS (fun H locs hP hD hS => ?_)
          have hP : va_P D vwCl (zWT cI cJ h (n, L) (kt, km, kl) (pt, pm, pl) (nu, le, ow, fo, run, wc, lc, tr, cl, tm, 0) (yl, yc, yt, co, pa, su, sc) mc ++ R) _ := hP
          have hD : va_D (zAb B) (zWT cI cJ h (n, L) (kt, km, kl) (pt, pm, pl) (nu, le, ow, fo, run, wc, lc, tr, cl, tm, 0) (yl, yc, yt, co, pa, su, sc) mc ++ R) := hD
          rw [show (le tr) = (nI x) from hx9]
          refine lv_istore_n (lv' := [(3, .int (nI x)), (2, .int 1), (0, .ref (h 0)), (1, .int time)]) hx hb dX4_tryLetter_23 rfl hl (by decide) rfl (fun ls hl => ?_)
          refine lv_aload_n hx hb dX4_tryLetter_24 rfl (lv_at hl 2 rfl) ?_
          refine va_get (ci := 4) (v := .ref (h 11)) (C := RX4) (T := TX4) (N := 6) hx hb hts hinX4 hown hK hP 0 rfl rfl 3 (by decide) (hts (.fieldLink RX4 31 "TypingTutor" "current" "LTypingTutor$Lesson;") (List.mem_of_getElem? (i := 1) rfl)) (fun _ h9 => h9) rfl dX4_tryLetter_25 ?_
          refine zci (zrV (As := []) (rest := []) ⟨hx, hb, hml, hown, hts⟩ (zV 11 hP hD hK hE hB hS rfl rfl) (c_X2_letterBefore  (by omega) (by omega)) (cwV 0 hts gX4_tryLetter_X2_letterBefore rfl rfl rfl hdv_X2_letterBefore ⟨Nat.le_of_ble_eq_true rfl, Nat.le_of_ble_eq_true rfl⟩) rfl rfl hl.1 rfl (lv_room (Nat.le_of_ble_eq_true rfl)) dX4_tryLetter_28 ⟨Nat.le_of_ble_eq_true rfl, Nat.le_of_ble_eq_true rfl⟩) hS (fun H locs hP hD hS => ?_)
          have hP : va_P D vwCl (zWT cI cJ h (n, L) (kt, km, kl) (pt, pm, pl) (nu, le, ow, fo, run, wc, lc, tr, cl, tm, 0) (yl, yc, yt, co, pa, su, sc) mc ++ R) _ := hP
          have hD : va_D (zAb B) (zWT cI cJ h (n, L) (kt, km, kl) (pt, pm, pl) (nu, le, ow, fo, run, wc, lc, tr, cl, tm, 0) (yl, yc, yt, co, pa, su, sc) mc ++ R) := hD
          rw [show (zis le ow lc tr (nI tr - 1)) = (nI o9) from ho]
          refine lv_istore (lv' := [(4, .int (nI o9)), (3, .int (nI x)), (2, .int 1), (0, .ref (h 0)), (1, .int time)]) hx hb dX4_tryLetter_31 hl (by decide) rfl (fun ls hl => ?_)
          refine lv_aload_n hx hb dX4_tryLetter_33 rfl (lv_at hl 3 rfl) ?_
          refine va_get (ci := 4) (v := .ref (h 3)) (C := RX4) (T := TX4) (N := 6) hx hb hts hinX4 hown hK hP 0 rfl rfl 1 (by decide) (hts (.fieldLink RX4 21 "TypingTutor" "keys" "LTypingTutor$Knowledge;") (List.mem_of_getElem? (i := 2) rfl)) (fun _ h9 => h9) rfl dX4_tryLetter_34 ?_
          refine lv_iload_n hx hb dX4_tryLetter_37 rfl (lv_at hl 1 rfl) ?_
          refine lv_iload_n hx hb dX4_tryLetter_38 rfl (lv_at hl 2 rfl) ?_
          refine lv_iload_n hx hb dX4_tryLetter_39 rfl (lv_at hl 4 rfl) ?_
          refine zcv (zrV (As := [.int (nI x), .int 1, .int time]) (rest := []) ⟨hx, hb, hml, hown, hts⟩ (zV 3 hP hD hK hE hB hS rfl rfl) (c_X1_learn_k (k := x) (b := true) (by omega)) (cwV 3 hts gX4_tryLetter_X1_learn rfl rfl rfl hdv_X1_learn ⟨Nat.le_of_ble_eq_true rfl, Nat.le_of_ble_eq_true rfl⟩) rfl rfl hl.1 rfl (lv_room (Nat.le_of_ble_eq_true rfl)) dX4_tryLetter_40 ⟨Nat.le_of_ble_eq_true rfl, Nat.le_of_ble_eq_true rfl⟩) hS (fun H locs hP hD hS => ?_)
          have hP : va_P D vwCl (zWT cI cJ h (n, L) ((zkt kt x), (zkm true km x), (zkl true kl x time)) (pt, pm, pl) (nu, le, ow, fo, run, wc, lc, tr, cl, tm, 0) (yl, yc, yt, co, pa, su, sc) mc ++ R) _ := hP
          have hD : va_D (zAb B) (zWT cI cJ h (n, L) ((zkt kt x), (zkm true km x), (zkl true kl x time)) (pt, pm, pl) (nu, le, ow, fo, run, wc, lc, tr, cl, tm, 0) (yl, yc, yt, co, pa, su, sc) mc ++ R) := hD
          refine lv_iload hx hb dX4_tryLetter_43 (lv_at hl 0 rfl) ?_
          refine lv_iconst (v := (-1)) hx hb dX4_tryLetter_45 (by decide) ?_
          refine lv_icmp_eq (tgt := 64) hx hb dX4_tryLetter_46 (by decide) (fun c_11 => ?_) (fun c_11 => ?_)
          · skip
            exact absurd c_11 (nI_m1 (by omega))
          · skip
            refine lv_aload_n hx hb dX4_tryLetter_49 rfl (lv_at hl 3 rfl) ?_
            refine va_get (ci := 4) (v := .ref (h 7)) (C := RX4) (T := TX4) (N := 6) hx hb hts hinX4 hown hK hP 0 rfl rfl 2 (by decide) (hts (.fieldLink RX4 25 "TypingTutor" "pairs" "LTypingTutor$Knowledge;") (List.mem_of_getElem? (i := 3) rfl)) (fun _ h9 => h9) rfl dX4_tryLetter_50 ?_
            refine lv_iload hx hb dX4_tryLetter_53 (lv_at hl 0 rfl) ?_
            refine lv_iload_n hx hb dX4_tryLetter_55 rfl (lv_at hl 1 rfl) ?_
            refine zci (zrS (As := [.int (nI o9), .int (nI x)]) (rest := [.ref (h 7)]) ⟨hx, hb, hml, hown, hts⟩ (zS hP hD hK hE hB hS) (c_X4_pairOf  ) (va_cwS 2 hts gX4_tryLetter_X4_pairOf rfl rfl rfl hds_X4_pairOf ⟨Nat.le_of_ble_eq_true rfl, Nat.le_of_ble_eq_true rfl⟩) rfl rfl hl.1 rfl (lv_room (Nat.le_of_ble_eq_true rfl)) dX4_tryLetter_56 ⟨Nat.le_of_ble_eq_true rfl, Nat.le_of_ble_eq_true rfl⟩) hS (fun H locs hP hD hS => ?_)
            have hP : va_P D vwCl (zWT cI cJ h (n, L) ((zkt kt x), (zkm true km x), (zkl true kl x time)) (pt, pm, pl) (nu, le, ow, fo, run, wc, lc, tr, cl, tm, 0) (yl, yc, yt, co, pa, su, sc) mc ++ R) _ := hP
            have hD : va_D (zAb B) (zWT cI cJ h (n, L) ((zkt kt x), (zkm true km x), (zkl true kl x time)) (pt, pm, pl) (nu, le, ow, fo, run, wc, lc, tr, cl, tm, 0) (yl, yc, yt, co, pa, su, sc) mc ++ R) := hD
            rw [show (26 * (nI o9) + (nI x)) = (nI (26 * o9 + x)) from (by rw [show (26 : Int32) = nI 26 from rfl, pk_mul, nI_add])]
            refine lv_iload_n hx hb dX4_tryLetter_59 rfl (lv_at hl 2 rfl) ?_
            refine lv_iload_n hx hb dX4_tryLetter_60 rfl (lv_at hl 4 rfl) ?_
            refine zcv (zrV (As := [.int (nI (26 * o9 + x)), .int 1, .int time]) (rest := []) ⟨hx, hb, hml, hown, hts⟩ (zV 7 hP hD hK hE hB hS rfl rfl) (c_X1_learn_p (k := (26 * o9 + x)) (b := true) (by omega)) (cwV 3 hts gX4_tryLetter_X1_learn rfl rfl rfl hdv_X1_learn ⟨Nat.le_of_ble_eq_true rfl, Nat.le_of_ble_eq_true rfl⟩) rfl rfl hl.1 rfl (lv_room (Nat.le_of_ble_eq_true rfl)) dX4_tryLetter_61 ⟨Nat.le_of_ble_eq_true rfl, Nat.le_of_ble_eq_true rfl⟩) hS (fun H locs hP hD hS => ?_)
            have hP : va_P D vwCl (zWT cI cJ h (n, L) ((zkt kt x), (zkm true km x), (zkl true kl x time)) ((zkt pt (26 * o9 + x)), (zkm true pm (26 * o9 + x)), (zkl true pl (26 * o9 + x) time)) (nu, le, ow, fo, run, wc, lc, tr, cl, tm, 0) (yl, yc, yt, co, pa, su, sc) mc ++ R) _ := hP
            have hD : va_D (zAb B) (zWT cI cJ h (n, L) ((zkt kt x), (zkm true km x), (zkl true kl x time)) ((zkt pt (26 * o9 + x)), (zkm true pm (26 * o9 + x)), (zkl true pl (26 * o9 + x) time)) (nu, le, ow, fo, run, wc, lc, tr, cl, tm, 0) (yl, yc, yt, co, pa, su, sc) mc ++ R) := hD
            refine lv_aload_n hx hb dX4_tryLetter_64 rfl (lv_at hl 3 rfl) ?_
            refine va_get (ci := 4) (v := .ref (h 11)) (C := RX4) (T := TX4) (N := 6) hx hb hts hinX4 hown hK hP 0 rfl rfl 3 (by decide) (hts (.fieldLink RX4 31 "TypingTutor" "current" "LTypingTutor$Lesson;") (List.mem_of_getElem? (i := 1) rfl)) (fun _ h9 => h9) rfl dX4_tryLetter_65 ?_
            refine lv_iload_n hx hb dX4_tryLetter_68 rfl (lv_at hl 2 rfl) ?_
            refine zcv (zrV (As := [.int 1]) (rest := []) ⟨hx, hb, hml, hown, hts⟩ (zV 11 hP hD hK hE hB hS rfl rfl) (c_X2_goOn_1  ) (cwV 1 hts gX4_tryLetter_X2_goOn rfl rfl rfl hdv_X2_goOn ⟨Nat.le_of_ble_eq_true rfl, Nat.le_of_ble_eq_true rfl⟩) rfl rfl hl.1 rfl (lv_room (Nat.le_of_ble_eq_true rfl)) dX4_tryLetter_69 ⟨Nat.le_of_ble_eq_true rfl, Nat.le_of_ble_eq_true rfl⟩) hS (fun H locs hP hD hS => ?_)
            have hP : va_P D vwCl (zWT cI cJ h (n, L) ((zkt kt x), (zkm true km x), (zkl true kl x time)) ((zkt pt (26 * o9 + x)), (zkm true pm (26 * o9 + x)), (zkl true pl (26 * o9 + x) time)) (nu, le, ow, fo, run, wc, lc, (tr + 1), (cl + 1), tm, 0) (yl, yc, yt, co, pa, su, sc) mc ++ R) _ := hP
            have hD : va_D (zAb B) (zWT cI cJ h (n, L) ((zkt kt x), (zkm true km x), (zkl true kl x time)) ((zkt pt (26 * o9 + x)), (zkm true pm (26 * o9 + x)), (zkl true pl (26 * o9 + x) time)) (nu, le, ow, fo, run, wc, lc, (tr + 1), (cl + 1), tm, 0) (yl, yc, yt, co, pa, su, sc) mc ++ R) := hD
            refine lv_aload_n hx hb dX4_tryLetter_72 rfl (lv_at hl 3 rfl) ?_
            refine va_get (ci := 4) (v := .ref (h 11)) (C := RX4) (T := TX4) (N := 6) hx hb hts hinX4 hown hK hP 0 rfl rfl 3 (by decide) (hts (.fieldLink RX4 31 "TypingTutor" "current" "LTypingTutor$Lesson;") (List.mem_of_getElem? (i := 1) rfl)) (fun _ h9 => h9) rfl dX4_tryLetter_73 ?_
            refine zci (zrV (As := []) (rest := []) ⟨hx, hb, hml, hown, hts⟩ (zV 11 hP hD hK hE hB hS rfl rfl) (c_X2_triedTotal  ) (cwV 0 hts gX4_tryLetter_X2_triedTotal rfl rfl rfl hdv_X2_triedTotal ⟨Nat.le_of_ble_eq_true rfl, Nat.le_of_ble_eq_true rfl⟩) rfl rfl hl.1 rfl (lv_room (Nat.le_of_ble_eq_true rfl)) dX4_tryLetter_76 ⟨Nat.le_of_ble_eq_true rfl, Nat.le_of_ble_eq_true rfl⟩) hS (fun H locs hP hD hS => ?_)
            have hP : va_P D vwCl (zWT cI cJ h (n, L) ((zkt kt x), (zkm true km x), (zkl true kl x time)) ((zkt pt (26 * o9 + x)), (zkm true pm (26 * o9 + x)), (zkl true pl (26 * o9 + x) time)) (nu, le, ow, fo, run, wc, lc, (tr + 1), (cl + 1), tm, 0) (yl, yc, yt, co, pa, su, sc) mc ++ R) _ := hP
            have hD : va_D (zAb B) (zWT cI cJ h (n, L) ((zkt kt x), (zkm true km x), (zkl true kl x time)) ((zkt pt (26 * o9 + x)), (zkm true pm (26 * o9 + x)), (zkl true pl (26 * o9 + x) time)) (nu, le, ow, fo, run, wc, lc, (tr + 1), (cl + 1), tm, 0) (yl, yc, yt, co, pa, su, sc) mc ++ R) := hD
            refine lv_aload_n hx hb dX4_tryLetter_79 rfl (lv_at hl 3 rfl) ?_
            refine va_get (ci := 4) (v := .ref (h 11)) (C := RX4) (T := TX4) (N := 6) hx hb hts hinX4 hown hK hP 0 rfl rfl 3 (by decide) (hts (.fieldLink RX4 31 "TypingTutor" "current" "LTypingTutor$Lesson;") (List.mem_of_getElem? (i := 1) rfl)) (fun _ h9 => h9) rfl dX4_tryLetter_80 ?_
            refine zci (zrV (As := []) (rest := [.int (nI (tr + 1))]) ⟨hx, hb, hml, hown, hts⟩ (zV 11 hP hD hK hE hB hS rfl rfl) (c_X2_letterTotal  ) (cwV 0 hts gX4_tryLetter_X2_letterTotal rfl rfl rfl hdv_X2_letterTotal ⟨Nat.le_of_ble_eq_true rfl, Nat.le_of_ble_eq_true rfl⟩) rfl rfl hl.1 rfl (lv_room (Nat.le_of_ble_eq_true rfl)) dX4_tryLetter_83 ⟨Nat.le_of_ble_eq_true rfl, Nat.le_of_ble_eq_true rfl⟩) hS (fun H locs hP hD hS => ?_)
            have hP : va_P D vwCl (zWT cI cJ h (n, L) ((zkt kt x), (zkm true km x), (zkl true kl x time)) ((zkt pt (26 * o9 + x)), (zkm true pm (26 * o9 + x)), (zkl true pl (26 * o9 + x) time)) (nu, le, ow, fo, run, wc, lc, (tr + 1), (cl + 1), tm, 0) (yl, yc, yt, co, pa, su, sc) mc ++ R) _ := hP
            have hD : va_D (zAb B) (zWT cI cJ h (n, L) ((zkt kt x), (zkm true km x), (zkl true kl x time)) ((zkt pt (26 * o9 + x)), (zkm true pm (26 * o9 + x)), (zkl true pl (26 * o9 + x) time)) (nu, le, ow, fo, run, wc, lc, (tr + 1), (cl + 1), tm, 0) (yl, yc, yt, co, pa, su, sc) mc ++ R) := hD
            refine lv_icmp_lt (tgt := 124) hx hb dX4_tryLetter_86 (by decide) (fun c_12 => ?_) (fun c_12 => ?_)
            · skip
              have c_12 : (tr + 1) < lc := (nI_ltI (a := (tr + 1)) (b := lc) (by omega) (by omega)).mp c_12
              exact W.vret hx hb hr (fun t ht hW => ⟨⟨(), rfl, trivial, by rw [ht]; exact hP, hD⟩, hS.F ht⟩) hS.2.2 dX4_tryLetter_124
            · skip
              have c_12 : ¬ (tr + 1) < lc := fun hh => c_12 ((nI_ltI (a := (tr + 1)) (b := lc) (by omega) (by omega)).mpr hh)
              omega
  | succ ms9 =>
    cases o with
    | none =>
      cases fin with
      | true =>
        refine Met.ofW (cc := cX4_tryLetter) (maxL := 5) (ret := none) (by decide) rfl ?_
        intro p e s m args below meth c s₁ B0 hml hv
        obtain ⟨rfl, hP, hD, hK, hE, hB⟩ := hv
        have hx := B0.exec
        have hb := B0.bytes
        have hr := B0.returns
        have hts := atoms_spec (ws := wsX4_tryLetter) B0.pre
        have hown : s.vm.findClass RX4 = some m.cls := findClass_of_methodNamed B0.named
        have hlocks := B0.notSynchronized
        have hA : ∀ q : Nat, s.heap.size ≤ q → zAb B q := fun q hq => Nat.le_trans hB hq
        have hS : va_S (zAb B) s.heap s.heap [] := va_S.rf
        have hgr : s.heap.size ≤ s.heap.size := Nat.le_refl _
        have hl := lv_entry ([.ref (h 0), .int time]) (n := 5) (Nat.le_of_ble_eq_true rfl)
        rw [lg_entry_eq]
        generalize (lg_sl ([.ref (h 0), .int time]) ++ List.replicate (5 - (lg_sl ([.ref (h 0), .int time])).length) Slot.unset).toArray = ls at hl ⊢
        have hl : lv_has ls 5 [(0, .ref (h 0)), (1, .int time)] := hl
        have hinX4 : ∀ w ∈ wsX40, w ∈ wsX4_tryLetter := fun _ h => List.mem_cons_of_mem _ (List.mem_append_left _ (List.mem_append_left _ (List.mem_append_left _ (List.mem_append_right _ h))))
        have hP : va_P D vwCl (zWT cI cJ h (n, L) (kt, km, kl) (pt, pm, pl) (nu, le, ow, fo, run, wc, lc, tr, cl, tm, (ms9 + 1)) (yl, yc, yt, co, pa, su, sc) mc ++ R) s.heap := hP
        have hD : va_D (zAb B) (zWT cI cJ h (n, L) (kt, km, kl) (pt, pm, pl) (nu, le, ow, fo, run, wc, lc, tr, cl, tm, (ms9 + 1)) (yl, yc, yt, co, pa, su, sc) mc ++ R) := hD
        have hf : tr + 1 = lc := hf
        refine lv_aload_n hx hb dX4_tryLetter_0 rfl (lv_at hl 0 rfl) ?_
        refine va_get (ci := 4) (v := .ref (h 11)) (C := RX4) (T := TX4) (N := 6) hx hb hts hinX4 hown hK hP 0 rfl rfl 3 (by decide) (hts (.fieldLink RX4 31 "TypingTutor" "current" "LTypingTutor$Lesson;") (List.mem_of_getElem? (i := 1) rfl)) (fun _ h9 => h9) rfl dX4_tryLetter_1 ?_
        refine zci (zrV (As := []) (rest := []) ⟨hx, hb, hml, hown, hts⟩ (zV 11 hP hD hK hE hB hS rfl rfl) (c_X2_mistakesHere  ) (cwV 0 hts gX4_tryLetter_X2_mistakesHere rfl rfl rfl hdv_X2_mistakesHere ⟨Nat.le_of_ble_eq_true rfl, Nat.le_of_ble_eq_true rfl⟩) rfl rfl hl.1 rfl (lv_room (Nat.le_of_ble_eq_true rfl)) dX4_tryLetter_4 ⟨Nat.le_of_ble_eq_true rfl, Nat.le_of_ble_eq_true rfl⟩) hS (fun H locs hP hD hS => ?_)
        have hP : va_P D vwCl (zWT cI cJ h (n, L) (kt, km, kl) (pt, pm, pl) (nu, le, ow, fo, run, wc, lc, tr, cl, tm, (ms9 + 1)) (yl, yc, yt, co, pa, su, sc) mc ++ R) _ := hP
        have hD : va_D (zAb B) (zWT cI cJ h (n, L) (kt, km, kl) (pt, pm, pl) (nu, le, ow, fo, run, wc, lc, tr, cl, tm, (ms9 + 1)) (yl, yc, yt, co, pa, su, sc) mc ++ R) := hD
        refine lv_if_ne (tgt := 14) hx hb dX4_tryLetter_7 (by decide) (fun c_13 => ?_) (fun c_13 => ?_)
        · skip
          have c_13 : ¬ (ms9 + 1) = 0 := fun hh => c_13 ((nI_eq (a := (ms9 + 1)) (b := 0) (by omega) (by omega)).mpr hh)
          refine lv_iconst (v := 0) hx hb dX4_tryLetter_14 (by decide) ?_
          refine lv_istore_n (lv' := [(2, .int 0), (0, .ref (h 0)), (1, .int time)]) hx hb dX4_tryLetter_15 rfl hl (by decide) rfl (fun ls hl => ?_)
          refine lv_aload_n hx hb dX4_tryLetter_16 rfl (lv_at hl 1 rfl) ?_
          refine va_get (ci := 4) (v := .ref (h 11)) (C := RX4) (T := TX4) (N := 6) hx hb hts hinX4 hown hK hP 0 rfl rfl 3 (by decide) (hts (.fieldLink RX4 31 "TypingTutor" "current" "LTypingTutor$Lesson;") (List.mem_of_getElem? (i := 1) rfl)) (fun _ h9 => h9) rfl dX4_tryLetter_17 ?_
          refine zci (zrV (As := []) (rest := []) ⟨hx, hb, hml, hown, hts⟩ (zV 11 hP hD hK hE hB hS rfl rfl) (c_X2_letterHere  (by omega)) (cwV 0 hts gX4_tryLetter_X2_letterHere rfl rfl rfl hdv_X2_letterHere ⟨Nat.le_of_ble_eq_true rfl, Nat.le_of_ble_eq_true rfl⟩) rfl rfl hl.1 rfl (lv_room (Nat.le_of_ble_eq_true rfl)) dX4_tryLetter_20 ⟨Nat.le_of_ble_eq_true rfl, Nat.le_of_ble_eq_true rfl⟩) hS (fun H locs hP hD hS => ?_)
          have hP : va_P D vwCl (zWT cI cJ h (n, L) (kt, km, kl) (pt, pm, pl) (nu, le, ow, fo, run, wc, lc, tr, cl, tm, (ms9 + 1)) (yl, yc, yt, co, pa, su, sc) mc ++ R) _ := hP
          have hD : va_D (zAb B) (zWT cI cJ h (n, L) (kt, km, kl) (pt, pm, pl) (nu, le, ow, fo, run, wc, lc, tr, cl, tm, (ms9 + 1)) (yl, yc, yt, co, pa, su, sc) mc ++ R) := hD
          rw [show (le tr) = (nI x) from hx9]
          refine lv_istore_n (lv' := [(3, .int (nI x)), (2, .int 0), (0, .ref (h 0)), (1, .int time)]) hx hb dX4_tryLetter_23 rfl hl (by decide) rfl (fun ls hl => ?_)
          refine lv_aload_n hx hb dX4_tryLetter_24 rfl (lv_at hl 2 rfl) ?_
          refine va_get (ci := 4) (v := .ref (h 11)) (C := RX4) (T := TX4) (N := 6) hx hb hts hinX4 hown hK hP 0 rfl rfl 3 (by decide) (hts (.fieldLink RX4 31 "TypingTutor" "current" "LTypingTutor$Lesson;") (List.mem_of_getElem? (i := 1) rfl)) (fun _ h9 => h9) rfl dX4_tryLetter_25 ?_
          refine zci (zrV (As := []) (rest := []) ⟨hx, hb, hml, hown, hts⟩ (zV 11 hP hD hK hE hB hS rfl rfl) (c_X2_letterBefore  (by omega) (by omega)) (cwV 0 hts gX4_tryLetter_X2_letterBefore rfl rfl rfl hdv_X2_letterBefore ⟨Nat.le_of_ble_eq_true rfl, Nat.le_of_ble_eq_true rfl⟩) rfl rfl hl.1 rfl (lv_room (Nat.le_of_ble_eq_true rfl)) dX4_tryLetter_28 ⟨Nat.le_of_ble_eq_true rfl, Nat.le_of_ble_eq_true rfl⟩) hS (fun H locs hP hD hS => ?_)
          have hP : va_P D vwCl (zWT cI cJ h (n, L) (kt, km, kl) (pt, pm, pl) (nu, le, ow, fo, run, wc, lc, tr, cl, tm, (ms9 + 1)) (yl, yc, yt, co, pa, su, sc) mc ++ R) _ := hP
          have hD : va_D (zAb B) (zWT cI cJ h (n, L) (kt, km, kl) (pt, pm, pl) (nu, le, ow, fo, run, wc, lc, tr, cl, tm, (ms9 + 1)) (yl, yc, yt, co, pa, su, sc) mc ++ R) := hD
          rw [show (zis le ow lc tr (nI tr - 1)) = (-1) from ho]
          refine lv_istore (lv' := [(4, .int (-1)), (3, .int (nI x)), (2, .int 0), (0, .ref (h 0)), (1, .int time)]) hx hb dX4_tryLetter_31 hl (by decide) rfl (fun ls hl => ?_)
          refine lv_aload_n hx hb dX4_tryLetter_33 rfl (lv_at hl 3 rfl) ?_
          refine va_get (ci := 4) (v := .ref (h 3)) (C := RX4) (T := TX4) (N := 6) hx hb hts hinX4 hown hK hP 0 rfl rfl 1 (by decide) (hts (.fieldLink RX4 21 "TypingTutor" "keys" "LTypingTutor$Knowledge;") (List.mem_of_getElem? (i := 2) rfl)) (fun _ h9 => h9) rfl dX4_tryLetter_34 ?_
          refine lv_iload_n hx hb dX4_tryLetter_37 rfl (lv_at hl 1 rfl) ?_
          refine lv_iload_n hx hb dX4_tryLetter_38 rfl (lv_at hl 2 rfl) ?_
          refine lv_iload_n hx hb dX4_tryLetter_39 rfl (lv_at hl 4 rfl) ?_
          refine zcv (zrV (As := [.int (nI x), .int 0, .int time]) (rest := []) ⟨hx, hb, hml, hown, hts⟩ (zV 3 hP hD hK hE hB hS rfl rfl) (c_X1_learn_k (k := x) (b := false) (by omega)) (cwV 3 hts gX4_tryLetter_X1_learn rfl rfl rfl hdv_X1_learn ⟨Nat.le_of_ble_eq_true rfl, Nat.le_of_ble_eq_true rfl⟩) rfl rfl hl.1 rfl (lv_room (Nat.le_of_ble_eq_true rfl)) dX4_tryLetter_40 ⟨Nat.le_of_ble_eq_true rfl, Nat.le_of_ble_eq_true rfl⟩) hS (fun H locs hP hD hS => ?_)
          have hP : va_P D vwCl (zWT cI cJ h (n, L) ((zkt kt x), (zkm false km x), (zkl false kl x time)) (pt, pm, pl) (nu, le, ow, fo, run, wc, lc, tr, cl, tm, (ms9 + 1)) (yl, yc, yt, co, pa, su, sc) mc ++ R) _ := hP
          have hD : va_D (zAb B) (zWT cI cJ h (n, L) ((zkt kt x), (zkm false km x), (zkl false kl x time)) (pt, pm, pl) (nu, le, ow, fo, run, wc, lc, tr, cl, tm, (ms9 + 1)) (yl, yc, yt, co, pa, su, sc) mc ++ R) := hD
          refine lv_iload hx hb dX4_tryLetter_43 (lv_at hl 0 rfl) ?_
          refine lv_iconst (v := (-1)) hx hb dX4_tryLetter_45 (by decide) ?_
          refine lv_icmp_eq (tgt := 64) hx hb dX4_tryLetter_46 (by decide) (fun c_14 => ?_) (fun c_14 => ?_)
          · skip
            refine lv_aload_n hx hb dX4_tryLetter_64 rfl (lv_at hl 3 rfl) ?_
            refine va_get (ci := 4) (v := .ref (h 11)) (C := RX4) (T := TX4) (N := 6) hx hb hts hinX4 hown hK hP 0 rfl rfl 3 (by decide) (hts (.fieldLink RX4 31 "TypingTutor" "current" "LTypingTutor$Lesson;") (List.mem_of_getElem? (i := 1) rfl)) (fun _ h9 => h9) rfl dX4_tryLetter_65 ?_
            refine lv_iload_n hx hb dX4_tryLetter_68 rfl (lv_at hl 2 rfl) ?_
            refine zcv (zrV (As := [.int 0]) (rest := []) ⟨hx, hb, hml, hown, hts⟩ (zV 11 hP hD hK hE hB hS rfl rfl) (c_X2_goOn_0  ) (cwV 1 hts gX4_tryLetter_X2_goOn rfl rfl rfl hdv_X2_goOn ⟨Nat.le_of_ble_eq_true rfl, Nat.le_of_ble_eq_true rfl⟩) rfl rfl hl.1 rfl (lv_room (Nat.le_of_ble_eq_true rfl)) dX4_tryLetter_69 ⟨Nat.le_of_ble_eq_true rfl, Nat.le_of_ble_eq_true rfl⟩) hS (fun H locs hP hD hS => ?_)
            have hP : va_P D vwCl (zWT cI cJ h (n, L) ((zkt kt x), (zkm false km x), (zkl false kl x time)) (pt, pm, pl) (nu, le, ow, fo, run, wc, lc, (tr + 1), cl, tm, 0) (yl, yc, yt, co, pa, su, sc) mc ++ R) _ := hP
            have hD : va_D (zAb B) (zWT cI cJ h (n, L) ((zkt kt x), (zkm false km x), (zkl false kl x time)) (pt, pm, pl) (nu, le, ow, fo, run, wc, lc, (tr + 1), cl, tm, 0) (yl, yc, yt, co, pa, su, sc) mc ++ R) := hD
            refine lv_aload_n hx hb dX4_tryLetter_72 rfl (lv_at hl 3 rfl) ?_
            refine va_get (ci := 4) (v := .ref (h 11)) (C := RX4) (T := TX4) (N := 6) hx hb hts hinX4 hown hK hP 0 rfl rfl 3 (by decide) (hts (.fieldLink RX4 31 "TypingTutor" "current" "LTypingTutor$Lesson;") (List.mem_of_getElem? (i := 1) rfl)) (fun _ h9 => h9) rfl dX4_tryLetter_73 ?_
            refine zci (zrV (As := []) (rest := []) ⟨hx, hb, hml, hown, hts⟩ (zV 11 hP hD hK hE hB hS rfl rfl) (c_X2_triedTotal  ) (cwV 0 hts gX4_tryLetter_X2_triedTotal rfl rfl rfl hdv_X2_triedTotal ⟨Nat.le_of_ble_eq_true rfl, Nat.le_of_ble_eq_true rfl⟩) rfl rfl hl.1 rfl (lv_room (Nat.le_of_ble_eq_true rfl)) dX4_tryLetter_76 ⟨Nat.le_of_ble_eq_true rfl, Nat.le_of_ble_eq_true rfl⟩) hS (fun H locs hP hD hS => ?_)
            have hP : va_P D vwCl (zWT cI cJ h (n, L) ((zkt kt x), (zkm false km x), (zkl false kl x time)) (pt, pm, pl) (nu, le, ow, fo, run, wc, lc, (tr + 1), cl, tm, 0) (yl, yc, yt, co, pa, su, sc) mc ++ R) _ := hP
            have hD : va_D (zAb B) (zWT cI cJ h (n, L) ((zkt kt x), (zkm false km x), (zkl false kl x time)) (pt, pm, pl) (nu, le, ow, fo, run, wc, lc, (tr + 1), cl, tm, 0) (yl, yc, yt, co, pa, su, sc) mc ++ R) := hD
            refine lv_aload_n hx hb dX4_tryLetter_79 rfl (lv_at hl 3 rfl) ?_
            refine va_get (ci := 4) (v := .ref (h 11)) (C := RX4) (T := TX4) (N := 6) hx hb hts hinX4 hown hK hP 0 rfl rfl 3 (by decide) (hts (.fieldLink RX4 31 "TypingTutor" "current" "LTypingTutor$Lesson;") (List.mem_of_getElem? (i := 1) rfl)) (fun _ h9 => h9) rfl dX4_tryLetter_80 ?_
            refine zci (zrV (As := []) (rest := [.int (nI (tr + 1))]) ⟨hx, hb, hml, hown, hts⟩ (zV 11 hP hD hK hE hB hS rfl rfl) (c_X2_letterTotal  ) (cwV 0 hts gX4_tryLetter_X2_letterTotal rfl rfl rfl hdv_X2_letterTotal ⟨Nat.le_of_ble_eq_true rfl, Nat.le_of_ble_eq_true rfl⟩) rfl rfl hl.1 rfl (lv_room (Nat.le_of_ble_eq_true rfl)) dX4_tryLetter_83 ⟨Nat.le_of_ble_eq_true rfl, Nat.le_of_ble_eq_true rfl⟩) hS (fun H locs hP hD hS => ?_)
            have hP : va_P D vwCl (zWT cI cJ h (n, L) ((zkt kt x), (zkm false km x), (zkl false kl x time)) (pt, pm, pl) (nu, le, ow, fo, run, wc, lc, (tr + 1), cl, tm, 0) (yl, yc, yt, co, pa, su, sc) mc ++ R) _ := hP
            have hD : va_D (zAb B) (zWT cI cJ h (n, L) ((zkt kt x), (zkm false km x), (zkl false kl x time)) (pt, pm, pl) (nu, le, ow, fo, run, wc, lc, (tr + 1), cl, tm, 0) (yl, yc, yt, co, pa, su, sc) mc ++ R) := hD
            refine lv_icmp_lt (tgt := 124) hx hb dX4_tryLetter_86 (by decide) (fun c_15 => ?_) (fun c_15 => ?_)
            · skip
              have c_15 : (tr + 1) < lc := (nI_ltI (a := (tr + 1)) (b := lc) (by omega) (by omega)).mp c_15
              omega
            · skip
              have c_15 : ¬ (tr + 1) < lc := fun hh => c_15 ((nI_ltI (a := (tr + 1)) (b := lc) (by omega) (by omega)).mpr hh)
              refine lv_aload_n hx hb dX4_tryLetter_89 rfl (lv_at hl 3 rfl) ?_
              refine va_get (ci := 4) (v := .ref (h 11)) (C := RX4) (T := TX4) (N := 6) hx hb hts hinX4 hown hK hP 0 rfl rfl 3 (by decide) (hts (.fieldLink RX4 31 "TypingTutor" "current" "LTypingTutor$Lesson;") (List.mem_of_getElem? (i := 1) rfl)) (fun _ h9 => h9) rfl dX4_tryLetter_90 ?_
              refine zcv (zrV (As := []) (rest := []) ⟨hx, hb, hml, hown, hts⟩ (zV 11 hP hD hK hE hB hS rfl rfl) (c_X2_stop  ) (cwV 0 hts gX4_tryLetter_X2_stop rfl rfl rfl hdv_X2_stop ⟨Nat.le_of_ble_eq_true rfl, Nat.le_of_ble_eq_true rfl⟩) rfl rfl hl.1 rfl (lv_room (Nat.le_of_ble_eq_true rfl)) dX4_tryLetter_93 ⟨Nat.le_of_ble_eq_true rfl, Nat.le_of_ble_eq_true rfl⟩) hS (fun H locs hP hD hS => ?_)
              have hP : va_P D vwCl (zWT cI cJ h (n, L) ((zkt kt x), (zkm false km x), (zkl false kl x time)) (pt, pm, pl) (nu, le, ow, fo, false, wc, lc, (tr + 1), cl, tm, 0) (yl, yc, yt, co, pa, su, sc) mc ++ R) _ := hP
              have hD : va_D (zAb B) (zWT cI cJ h (n, L) ((zkt kt x), (zkm false km x), (zkl false kl x time)) (pt, pm, pl) (nu, le, ow, fo, false, wc, lc, (tr + 1), cl, tm, 0) (yl, yc, yt, co, pa, su, sc) mc ++ R) := hD
              refine lv_aload_n hx hb dX4_tryLetter_96 rfl (lv_at hl 3 rfl) ?_
              refine va_get (ci := 4) (v := .ref (h 16)) (C := RX4) (T := TX4) (N := 6) hx hb hts hinX4 hown hK hP 0 rfl rfl 4 (by decide) (hts (.fieldLink RX4 38 "TypingTutor" "past" "LTypingTutor$History;") (List.mem_of_getElem? (i := 4) rfl)) (fun _ h9 => h9) rfl dX4_tryLetter_97 ?_
              refine lv_aload_n hx hb dX4_tryLetter_100 rfl (lv_at hl 3 rfl) ?_
              refine va_get (ci := 4) (v := .ref (h 11)) (C := RX4) (T := TX4) (N := 6) hx hb hts hinX4 hown hK hP 0 rfl rfl 3 (by decide) (hts (.fieldLink RX4 31 "TypingTutor" "current" "LTypingTutor$Lesson;") (List.mem_of_getElem? (i := 1) rfl)) (fun _ h9 => h9) rfl dX4_tryLetter_101 ?_
              refine zci (zrV (As := []) (rest := [.ref (h 16)]) ⟨hx, hb, hml, hown, hts⟩ (zV 11 hP hD hK hE hB hS rfl rfl) (c_X2_letterTotal  ) (cwV 0 hts gX4_tryLetter_X2_letterTotal rfl rfl rfl hdv_X2_letterTotal ⟨Nat.le_of_ble_eq_true rfl, Nat.le_of_ble_eq_true rfl⟩) rfl rfl hl.1 rfl (lv_room (Nat.le_of_ble_eq_true rfl)) dX4_tryLetter_104 ⟨Nat.le_of_ble_eq_true rfl, Nat.le_of_ble_eq_true rfl⟩) hS (fun H locs hP hD hS => ?_)
              have hP : va_P D vwCl (zWT cI cJ h (n, L) ((zkt kt x), (zkm false km x), (zkl false kl x time)) (pt, pm, pl) (nu, le, ow, fo, false, wc, lc, (tr + 1), cl, tm, 0) (yl, yc, yt, co, pa, su, sc) mc ++ R) _ := hP
              have hD : va_D (zAb B) (zWT cI cJ h (n, L) ((zkt kt x), (zkm false km x), (zkl false kl x time)) (pt, pm, pl) (nu, le, ow, fo, false, wc, lc, (tr + 1), cl, tm, 0) (yl, yc, yt, co, pa, su, sc) mc ++ R) := hD
              refine lv_aload_n hx hb dX4_tryLetter_107 rfl (lv_at hl 3 rfl) ?_
              refine va_get (ci := 4) (v := .ref (h 11)) (C := RX4) (T := TX4) (N := 6) hx hb hts hinX4 hown hK hP 0 rfl rfl 3 (by decide) (hts (.fieldLink RX4 31 "TypingTutor" "current" "LTypingTutor$Lesson;") (List.mem_of_getElem? (i := 1) rfl)) (fun _ h9 => h9) rfl dX4_tryLetter_108 ?_
              refine zci (zrV (As := []) (rest := [.int (nI lc), .ref (h 16)]) ⟨hx, hb, hml, hown, hts⟩ (zV 11 hP hD hK hE hB hS rfl rfl) (c_X2_cleanTotal  ) (cwV 0 hts gX4_tryLetter_X2_cleanTotal rfl rfl rfl hdv_X2_cleanTotal ⟨Nat.le_of_ble_eq_true rfl, Nat.le_of_ble_eq_true rfl⟩) rfl rfl hl.1 rfl (lv_room (Nat.le_of_ble_eq_true rfl)) dX4_tryLetter_111 ⟨Nat.le_of_ble_eq_true rfl, Nat.le_of_ble_eq_true rfl⟩) hS (fun H locs hP hD hS => ?_)
              have hP : va_P D vwCl (zWT cI cJ h (n, L) ((zkt kt x), (zkm false km x), (zkl false kl x time)) (pt, pm, pl) (nu, le, ow, fo, false, wc, lc, (tr + 1), cl, tm, 0) (yl, yc, yt, co, pa, su, sc) mc ++ R) _ := hP
              have hD : va_D (zAb B) (zWT cI cJ h (n, L) ((zkt kt x), (zkm false km x), (zkl false kl x time)) (pt, pm, pl) (nu, le, ow, fo, false, wc, lc, (tr + 1), cl, tm, 0) (yl, yc, yt, co, pa, su, sc) mc ++ R) := hD
              refine lv_aload_n hx hb dX4_tryLetter_114 rfl (lv_at hl 3 rfl) ?_
              refine va_get (ci := 4) (v := .ref (h 11)) (C := RX4) (T := TX4) (N := 6) hx hb hts hinX4 hown hK hP 0 rfl rfl 3 (by decide) (hts (.fieldLink RX4 31 "TypingTutor" "current" "LTypingTutor$Lesson;") (List.mem_of_getElem? (i := 1) rfl)) (fun _ h9 => h9) rfl dX4_tryLetter_115 ?_
              refine zci (zrV (As := []) (rest := [.int (nI cl), .int (nI lc), .ref (h 16)]) ⟨hx, hb, hml, hown, hts⟩ (zV 11 hP hD hK hE hB hS rfl rfl) (c_X2_timeSum  ) (cwV 0 hts gX4_tryLetter_X2_timeSum rfl rfl rfl hdv_X2_timeSum ⟨Nat.le_of_ble_eq_true rfl, Nat.le_of_ble_eq_true rfl⟩) rfl rfl hl.1 rfl (lv_room (Nat.le_of_ble_eq_true rfl)) dX4_tryLetter_118 ⟨Nat.le_of_ble_eq_true rfl, Nat.le_of_ble_eq_true rfl⟩) hS (fun H locs hP hD hS => ?_)
              have hP : va_P D vwCl (zWT cI cJ h (n, L) ((zkt kt x), (zkm false km x), (zkl false kl x time)) (pt, pm, pl) (nu, le, ow, fo, false, wc, lc, (tr + 1), cl, tm, 0) (yl, yc, yt, co, pa, su, sc) mc ++ R) _ := hP
              have hD : va_D (zAb B) (zWT cI cJ h (n, L) ((zkt kt x), (zkm false km x), (zkl false kl x time)) (pt, pm, pl) (nu, le, ow, fo, false, wc, lc, (tr + 1), cl, tm, 0) (yl, yc, yt, co, pa, su, sc) mc ++ R) := hD
              refine zcv (zrV (As := [.int (nI lc), .int (nI cl), .int (nI tm)]) (rest := []) ⟨hx, hb, hml, hown, hts⟩ (zV 16 hP hD hK hE hB hS rfl rfl) (c_X0_keep (lt := lc) (ct := cl) (ts := tm) (by omega) (by omega) (by omega)) (cwV 3 hts gX4_tryLetter_X0_keep rfl rfl rfl hdv_X0_keep ⟨Nat.le_of_ble_eq_true rfl, Nat.le_of_ble_eq_true rfl⟩) rfl rfl hl.1 rfl (lv_room (Nat.le_of_ble_eq_true rfl)) dX4_tryLetter_121 ⟨Nat.le_of_ble_eq_true rfl, Nat.le_of_ble_eq_true rfl⟩) hS (fun H locs hP hD hS => ?_)
              have hP : va_P D vwCl (zWT cI cJ h (n, L) ((zkt kt x), (zkm false km x), (zkl false kl x time)) (pt, pm, pl) (nu, le, ow, fo, false, wc, lc, (tr + 1), cl, tm, 0) ((upd yl co (nI lc)), (upd yc co (nI cl)), (upd yt co (nI tm)), (co + 1), (zpc pa lc cl), (su + lc), (sc + cl)) mc ++ R) _ := hP
              have hD : va_D (zAb B) (zWT cI cJ h (n, L) ((zkt kt x), (zkm false km x), (zkl false kl x time)) (pt, pm, pl) (nu, le, ow, fo, false, wc, lc, (tr + 1), cl, tm, 0) ((upd yl co (nI lc)), (upd yc co (nI cl)), (upd yt co (nI tm)), (co + 1), (zpc pa lc cl), (su + lc), (sc + cl)) mc ++ R) := hD
              exact W.vret hx hb hr (fun t ht hW => ⟨⟨(), rfl, trivial, by rw [ht]; exact hP, hD⟩, hS.F ht⟩) hS.2.2 dX4_tryLetter_124
          · skip
            exfalso; first | omega | (revert c_14; decide) | (exact absurd rfl c_14) | simp_all
        · skip
          have c_13 : (ms9 + 1) = 0 := (nI_eq (a := (ms9 + 1)) (b := 0) (by omega) (by omega)).mp c_13
          omega
      | false =>
        refine Met.ofW (cc := cX4_tryLetter) (maxL := 5) (ret := none) (by decide) rfl ?_
        intro p e s m args below meth c s₁ B0 hml hv
        obtain ⟨rfl, hP, hD, hK, hE, hB⟩ := hv
        have hx := B0.exec
        have hb := B0.bytes
        have hr := B0.returns
        have hts := atoms_spec (ws := wsX4_tryLetter) B0.pre
        have hown : s.vm.findClass RX4 = some m.cls := findClass_of_methodNamed B0.named
        have hlocks := B0.notSynchronized
        have hA : ∀ q : Nat, s.heap.size ≤ q → zAb B q := fun q hq => Nat.le_trans hB hq
        have hS : va_S (zAb B) s.heap s.heap [] := va_S.rf
        have hgr : s.heap.size ≤ s.heap.size := Nat.le_refl _
        have hl := lv_entry ([.ref (h 0), .int time]) (n := 5) (Nat.le_of_ble_eq_true rfl)
        rw [lg_entry_eq]
        generalize (lg_sl ([.ref (h 0), .int time]) ++ List.replicate (5 - (lg_sl ([.ref (h 0), .int time])).length) Slot.unset).toArray = ls at hl ⊢
        have hl : lv_has ls 5 [(0, .ref (h 0)), (1, .int time)] := hl
        have hinX4 : ∀ w ∈ wsX40, w ∈ wsX4_tryLetter := fun _ h => List.mem_cons_of_mem _ (List.mem_append_left _ (List.mem_append_left _ (List.mem_append_left _ (List.mem_append_right _ h))))
        have hP : va_P D vwCl (zWT cI cJ h (n, L) (kt, km, kl) (pt, pm, pl) (nu, le, ow, fo, run, wc, lc, tr, cl, tm, (ms9 + 1)) (yl, yc, yt, co, pa, su, sc) mc ++ R) s.heap := hP
        have hD : va_D (zAb B) (zWT cI cJ h (n, L) (kt, km, kl) (pt, pm, pl) (nu, le, ow, fo, run, wc, lc, tr, cl, tm, (ms9 + 1)) (yl, yc, yt, co, pa, su, sc) mc ++ R) := hD
        have hf : tr + 1 < lc := hf
        refine lv_aload_n hx hb dX4_tryLetter_0 rfl (lv_at hl 0 rfl) ?_
        refine va_get (ci := 4) (v := .ref (h 11)) (C := RX4) (T := TX4) (N := 6) hx hb hts hinX4 hown hK hP 0 rfl rfl 3 (by decide) (hts (.fieldLink RX4 31 "TypingTutor" "current" "LTypingTutor$Lesson;") (List.mem_of_getElem? (i := 1) rfl)) (fun _ h9 => h9) rfl dX4_tryLetter_1 ?_
        refine zci (zrV (As := []) (rest := []) ⟨hx, hb, hml, hown, hts⟩ (zV 11 hP hD hK hE hB hS rfl rfl) (c_X2_mistakesHere  ) (cwV 0 hts gX4_tryLetter_X2_mistakesHere rfl rfl rfl hdv_X2_mistakesHere ⟨Nat.le_of_ble_eq_true rfl, Nat.le_of_ble_eq_true rfl⟩) rfl rfl hl.1 rfl (lv_room (Nat.le_of_ble_eq_true rfl)) dX4_tryLetter_4 ⟨Nat.le_of_ble_eq_true rfl, Nat.le_of_ble_eq_true rfl⟩) hS (fun H locs hP hD hS => ?_)
        have hP : va_P D vwCl (zWT cI cJ h (n, L) (kt, km, kl) (pt, pm, pl) (nu, le, ow, fo, run, wc, lc, tr, cl, tm, (ms9 + 1)) (yl, yc, yt, co, pa, su, sc) mc ++ R) _ := hP
        have hD : va_D (zAb B) (zWT cI cJ h (n, L) (kt, km, kl) (pt, pm, pl) (nu, le, ow, fo, run, wc, lc, tr, cl, tm, (ms9 + 1)) (yl, yc, yt, co, pa, su, sc) mc ++ R) := hD
        refine lv_if_ne (tgt := 14) hx hb dX4_tryLetter_7 (by decide) (fun c_16 => ?_) (fun c_16 => ?_)
        · skip
          have c_16 : ¬ (ms9 + 1) = 0 := fun hh => c_16 ((nI_eq (a := (ms9 + 1)) (b := 0) (by omega) (by omega)).mpr hh)
          refine lv_iconst (v := 0) hx hb dX4_tryLetter_14 (by decide) ?_
          refine lv_istore_n (lv' := [(2, .int 0), (0, .ref (h 0)), (1, .int time)]) hx hb dX4_tryLetter_15 rfl hl (by decide) rfl (fun ls hl => ?_)
          refine lv_aload_n hx hb dX4_tryLetter_16 rfl (lv_at hl 1 rfl) ?_
          refine va_get (ci := 4) (v := .ref (h 11)) (C := RX4) (T := TX4) (N := 6) hx hb hts hinX4 hown hK hP 0 rfl rfl 3 (by decide) (hts (.fieldLink RX4 31 "TypingTutor" "current" "LTypingTutor$Lesson;") (List.mem_of_getElem? (i := 1) rfl)) (fun _ h9 => h9) rfl dX4_tryLetter_17 ?_
          refine zci (zrV (As := []) (rest := []) ⟨hx, hb, hml, hown, hts⟩ (zV 11 hP hD hK hE hB hS rfl rfl) (c_X2_letterHere  (by omega)) (cwV 0 hts gX4_tryLetter_X2_letterHere rfl rfl rfl hdv_X2_letterHere ⟨Nat.le_of_ble_eq_true rfl, Nat.le_of_ble_eq_true rfl⟩) rfl rfl hl.1 rfl (lv_room (Nat.le_of_ble_eq_true rfl)) dX4_tryLetter_20 ⟨Nat.le_of_ble_eq_true rfl, Nat.le_of_ble_eq_true rfl⟩) hS (fun H locs hP hD hS => ?_)
          have hP : va_P D vwCl (zWT cI cJ h (n, L) (kt, km, kl) (pt, pm, pl) (nu, le, ow, fo, run, wc, lc, tr, cl, tm, (ms9 + 1)) (yl, yc, yt, co, pa, su, sc) mc ++ R) _ := hP
          have hD : va_D (zAb B) (zWT cI cJ h (n, L) (kt, km, kl) (pt, pm, pl) (nu, le, ow, fo, run, wc, lc, tr, cl, tm, (ms9 + 1)) (yl, yc, yt, co, pa, su, sc) mc ++ R) := hD
          rw [show (le tr) = (nI x) from hx9]
          refine lv_istore_n (lv' := [(3, .int (nI x)), (2, .int 0), (0, .ref (h 0)), (1, .int time)]) hx hb dX4_tryLetter_23 rfl hl (by decide) rfl (fun ls hl => ?_)
          refine lv_aload_n hx hb dX4_tryLetter_24 rfl (lv_at hl 2 rfl) ?_
          refine va_get (ci := 4) (v := .ref (h 11)) (C := RX4) (T := TX4) (N := 6) hx hb hts hinX4 hown hK hP 0 rfl rfl 3 (by decide) (hts (.fieldLink RX4 31 "TypingTutor" "current" "LTypingTutor$Lesson;") (List.mem_of_getElem? (i := 1) rfl)) (fun _ h9 => h9) rfl dX4_tryLetter_25 ?_
          refine zci (zrV (As := []) (rest := []) ⟨hx, hb, hml, hown, hts⟩ (zV 11 hP hD hK hE hB hS rfl rfl) (c_X2_letterBefore  (by omega) (by omega)) (cwV 0 hts gX4_tryLetter_X2_letterBefore rfl rfl rfl hdv_X2_letterBefore ⟨Nat.le_of_ble_eq_true rfl, Nat.le_of_ble_eq_true rfl⟩) rfl rfl hl.1 rfl (lv_room (Nat.le_of_ble_eq_true rfl)) dX4_tryLetter_28 ⟨Nat.le_of_ble_eq_true rfl, Nat.le_of_ble_eq_true rfl⟩) hS (fun H locs hP hD hS => ?_)
          have hP : va_P D vwCl (zWT cI cJ h (n, L) (kt, km, kl) (pt, pm, pl) (nu, le, ow, fo, run, wc, lc, tr, cl, tm, (ms9 + 1)) (yl, yc, yt, co, pa, su, sc) mc ++ R) _ := hP
          have hD : va_D (zAb B) (zWT cI cJ h (n, L) (kt, km, kl) (pt, pm, pl) (nu, le, ow, fo, run, wc, lc, tr, cl, tm, (ms9 + 1)) (yl, yc, yt, co, pa, su, sc) mc ++ R) := hD
          rw [show (zis le ow lc tr (nI tr - 1)) = (-1) from ho]
          refine lv_istore (lv' := [(4, .int (-1)), (3, .int (nI x)), (2, .int 0), (0, .ref (h 0)), (1, .int time)]) hx hb dX4_tryLetter_31 hl (by decide) rfl (fun ls hl => ?_)
          refine lv_aload_n hx hb dX4_tryLetter_33 rfl (lv_at hl 3 rfl) ?_
          refine va_get (ci := 4) (v := .ref (h 3)) (C := RX4) (T := TX4) (N := 6) hx hb hts hinX4 hown hK hP 0 rfl rfl 1 (by decide) (hts (.fieldLink RX4 21 "TypingTutor" "keys" "LTypingTutor$Knowledge;") (List.mem_of_getElem? (i := 2) rfl)) (fun _ h9 => h9) rfl dX4_tryLetter_34 ?_
          refine lv_iload_n hx hb dX4_tryLetter_37 rfl (lv_at hl 1 rfl) ?_
          refine lv_iload_n hx hb dX4_tryLetter_38 rfl (lv_at hl 2 rfl) ?_
          refine lv_iload_n hx hb dX4_tryLetter_39 rfl (lv_at hl 4 rfl) ?_
          refine zcv (zrV (As := [.int (nI x), .int 0, .int time]) (rest := []) ⟨hx, hb, hml, hown, hts⟩ (zV 3 hP hD hK hE hB hS rfl rfl) (c_X1_learn_k (k := x) (b := false) (by omega)) (cwV 3 hts gX4_tryLetter_X1_learn rfl rfl rfl hdv_X1_learn ⟨Nat.le_of_ble_eq_true rfl, Nat.le_of_ble_eq_true rfl⟩) rfl rfl hl.1 rfl (lv_room (Nat.le_of_ble_eq_true rfl)) dX4_tryLetter_40 ⟨Nat.le_of_ble_eq_true rfl, Nat.le_of_ble_eq_true rfl⟩) hS (fun H locs hP hD hS => ?_)
          have hP : va_P D vwCl (zWT cI cJ h (n, L) ((zkt kt x), (zkm false km x), (zkl false kl x time)) (pt, pm, pl) (nu, le, ow, fo, run, wc, lc, tr, cl, tm, (ms9 + 1)) (yl, yc, yt, co, pa, su, sc) mc ++ R) _ := hP
          have hD : va_D (zAb B) (zWT cI cJ h (n, L) ((zkt kt x), (zkm false km x), (zkl false kl x time)) (pt, pm, pl) (nu, le, ow, fo, run, wc, lc, tr, cl, tm, (ms9 + 1)) (yl, yc, yt, co, pa, su, sc) mc ++ R) := hD
          refine lv_iload hx hb dX4_tryLetter_43 (lv_at hl 0 rfl) ?_
          refine lv_iconst (v := (-1)) hx hb dX4_tryLetter_45 (by decide) ?_
          refine lv_icmp_eq (tgt := 64) hx hb dX4_tryLetter_46 (by decide) (fun c_17 => ?_) (fun c_17 => ?_)
          · skip
            refine lv_aload_n hx hb dX4_tryLetter_64 rfl (lv_at hl 3 rfl) ?_
            refine va_get (ci := 4) (v := .ref (h 11)) (C := RX4) (T := TX4) (N := 6) hx hb hts hinX4 hown hK hP 0 rfl rfl 3 (by decide) (hts (.fieldLink RX4 31 "TypingTutor" "current" "LTypingTutor$Lesson;") (List.mem_of_getElem? (i := 1) rfl)) (fun _ h9 => h9) rfl dX4_tryLetter_65 ?_
            refine lv_iload_n hx hb dX4_tryLetter_68 rfl (lv_at hl 2 rfl) ?_
            refine zcv (zrV (As := [.int 0]) (rest := []) ⟨hx, hb, hml, hown, hts⟩ (zV 11 hP hD hK hE hB hS rfl rfl) (c_X2_goOn_0  ) (cwV 1 hts gX4_tryLetter_X2_goOn rfl rfl rfl hdv_X2_goOn ⟨Nat.le_of_ble_eq_true rfl, Nat.le_of_ble_eq_true rfl⟩) rfl rfl hl.1 rfl (lv_room (Nat.le_of_ble_eq_true rfl)) dX4_tryLetter_69 ⟨Nat.le_of_ble_eq_true rfl, Nat.le_of_ble_eq_true rfl⟩) hS (fun H locs hP hD hS => ?_)
            have hP : va_P D vwCl (zWT cI cJ h (n, L) ((zkt kt x), (zkm false km x), (zkl false kl x time)) (pt, pm, pl) (nu, le, ow, fo, run, wc, lc, (tr + 1), cl, tm, 0) (yl, yc, yt, co, pa, su, sc) mc ++ R) _ := hP
            have hD : va_D (zAb B) (zWT cI cJ h (n, L) ((zkt kt x), (zkm false km x), (zkl false kl x time)) (pt, pm, pl) (nu, le, ow, fo, run, wc, lc, (tr + 1), cl, tm, 0) (yl, yc, yt, co, pa, su, sc) mc ++ R) := hD
            refine lv_aload_n hx hb dX4_tryLetter_72 rfl (lv_at hl 3 rfl) ?_
            refine va_get (ci := 4) (v := .ref (h 11)) (C := RX4) (T := TX4) (N := 6) hx hb hts hinX4 hown hK hP 0 rfl rfl 3 (by decide) (hts (.fieldLink RX4 31 "TypingTutor" "current" "LTypingTutor$Lesson;") (List.mem_of_getElem? (i := 1) rfl)) (fun _ h9 => h9) rfl dX4_tryLetter_73 ?_
            refine zci (zrV (As := []) (rest := []) ⟨hx, hb, hml, hown, hts⟩ (zV 11 hP hD hK hE hB hS rfl rfl) (c_X2_triedTotal  ) (cwV 0 hts gX4_tryLetter_X2_triedTotal rfl rfl rfl hdv_X2_triedTotal ⟨Nat.le_of_ble_eq_true rfl, Nat.le_of_ble_eq_true rfl⟩) rfl rfl hl.1 rfl (lv_room (Nat.le_of_ble_eq_true rfl)) dX4_tryLetter_76 ⟨Nat.le_of_ble_eq_true rfl, Nat.le_of_ble_eq_true rfl⟩) hS (fun H locs hP hD hS => ?_)
            have hP : va_P D vwCl (zWT cI cJ h (n, L) ((zkt kt x), (zkm false km x), (zkl false kl x time)) (pt, pm, pl) (nu, le, ow, fo, run, wc, lc, (tr + 1), cl, tm, 0) (yl, yc, yt, co, pa, su, sc) mc ++ R) _ := hP
            have hD : va_D (zAb B) (zWT cI cJ h (n, L) ((zkt kt x), (zkm false km x), (zkl false kl x time)) (pt, pm, pl) (nu, le, ow, fo, run, wc, lc, (tr + 1), cl, tm, 0) (yl, yc, yt, co, pa, su, sc) mc ++ R) := hD
            refine lv_aload_n hx hb dX4_tryLetter_79 rfl (lv_at hl 3 rfl) ?_
            refine va_get (ci := 4) (v := .ref (h 11)) (C := RX4) (T := TX4) (N := 6) hx hb hts hinX4 hown hK hP 0 rfl rfl 3 (by decide) (hts (.fieldLink RX4 31 "TypingTutor" "current" "LTypingTutor$Lesson;") (List.mem_of_getElem? (i := 1) rfl)) (fun _ h9 => h9) rfl dX4_tryLetter_80 ?_
            refine zci (zrV (As := []) (rest := [.int (nI (tr + 1))]) ⟨hx, hb, hml, hown, hts⟩ (zV 11 hP hD hK hE hB hS rfl rfl) (c_X2_letterTotal  ) (cwV 0 hts gX4_tryLetter_X2_letterTotal rfl rfl rfl hdv_X2_letterTotal ⟨Nat.le_of_ble_eq_true rfl, Nat.le_of_ble_eq_true rfl⟩) rfl rfl hl.1 rfl (lv_room (Nat.le_of_ble_eq_true rfl)) dX4_tryLetter_83 ⟨Nat.le_of_ble_eq_true rfl, Nat.le_of_ble_eq_true rfl⟩) hS (fun H locs hP hD hS => ?_)
            have hP : va_P D vwCl (zWT cI cJ h (n, L) ((zkt kt x), (zkm false km x), (zkl false kl x time)) (pt, pm, pl) (nu, le, ow, fo, run, wc, lc, (tr + 1), cl, tm, 0) (yl, yc, yt, co, pa, su, sc) mc ++ R) _ := hP
            have hD : va_D (zAb B) (zWT cI cJ h (n, L) ((zkt kt x), (zkm false km x), (zkl false kl x time)) (pt, pm, pl) (nu, le, ow, fo, run, wc, lc, (tr + 1), cl, tm, 0) (yl, yc, yt, co, pa, su, sc) mc ++ R) := hD
            refine lv_icmp_lt (tgt := 124) hx hb dX4_tryLetter_86 (by decide) (fun c_18 => ?_) (fun c_18 => ?_)
            · skip
              have c_18 : (tr + 1) < lc := (nI_ltI (a := (tr + 1)) (b := lc) (by omega) (by omega)).mp c_18
              exact W.vret hx hb hr (fun t ht hW => ⟨⟨(), rfl, trivial, by rw [ht]; exact hP, hD⟩, hS.F ht⟩) hS.2.2 dX4_tryLetter_124
            · skip
              have c_18 : ¬ (tr + 1) < lc := fun hh => c_18 ((nI_ltI (a := (tr + 1)) (b := lc) (by omega) (by omega)).mpr hh)
              omega
          · skip
            exfalso; first | omega | (revert c_17; decide) | (exact absurd rfl c_17) | simp_all
        · skip
          have c_16 : (ms9 + 1) = 0 := (nI_eq (a := (ms9 + 1)) (b := 0) (by omega) (by omega)).mp c_16
          omega
    | some o9 =>
      cases fin with
      | true =>
        refine Met.ofW (cc := cX4_tryLetter) (maxL := 5) (ret := none) (by decide) rfl ?_
        intro p e s m args below meth c s₁ B0 hml hv
        obtain ⟨rfl, hP, hD, hK, hE, hB⟩ := hv
        have hx := B0.exec
        have hb := B0.bytes
        have hr := B0.returns
        have hts := atoms_spec (ws := wsX4_tryLetter) B0.pre
        have hown : s.vm.findClass RX4 = some m.cls := findClass_of_methodNamed B0.named
        have hlocks := B0.notSynchronized
        have hA : ∀ q : Nat, s.heap.size ≤ q → zAb B q := fun q hq => Nat.le_trans hB hq
        have hS : va_S (zAb B) s.heap s.heap [] := va_S.rf
        have hgr : s.heap.size ≤ s.heap.size := Nat.le_refl _
        have hl := lv_entry ([.ref (h 0), .int time]) (n := 5) (Nat.le_of_ble_eq_true rfl)
        rw [lg_entry_eq]
        generalize (lg_sl ([.ref (h 0), .int time]) ++ List.replicate (5 - (lg_sl ([.ref (h 0), .int time])).length) Slot.unset).toArray = ls at hl ⊢
        have hl : lv_has ls 5 [(0, .ref (h 0)), (1, .int time)] := hl
        have hinX4 : ∀ w ∈ wsX40, w ∈ wsX4_tryLetter := fun _ h => List.mem_cons_of_mem _ (List.mem_append_left _ (List.mem_append_left _ (List.mem_append_left _ (List.mem_append_right _ h))))
        have hP : va_P D vwCl (zWT cI cJ h (n, L) (kt, km, kl) (pt, pm, pl) (nu, le, ow, fo, run, wc, lc, tr, cl, tm, (ms9 + 1)) (yl, yc, yt, co, pa, su, sc) mc ++ R) s.heap := hP
        have hD : va_D (zAb B) (zWT cI cJ h (n, L) (kt, km, kl) (pt, pm, pl) (nu, le, ow, fo, run, wc, lc, tr, cl, tm, (ms9 + 1)) (yl, yc, yt, co, pa, su, sc) mc ++ R) := hD
        have hy : o9 < 26 := hoy o9 rfl
        have hf : tr + 1 = lc := hf
        refine lv_aload_n hx hb dX4_tryLetter_0 rfl (lv_at hl 0 rfl) ?_
        refine va_get (ci := 4) (v := .ref (h 11)) (C := RX4) (T := TX4) (N := 6) hx hb hts hinX4 hown hK hP 0 rfl rfl 3 (by decide) (hts (.fieldLink RX4 31 "TypingTutor" "current" "LTypingTutor$Lesson;") (List.mem_of_getElem? (i := 1) rfl)) (fun _ h9 => h9) rfl dX4_tryLetter_1 ?_
        refine zci (zrV (As := []) (rest := []) ⟨hx, hb, hml, hown, hts⟩ (zV 11 hP hD hK hE hB hS rfl rfl) (c_X2_mistakesHere  ) (cwV 0 hts gX4_tryLetter_X2_mistakesHere rfl rfl rfl hdv_X2_mistakesHere ⟨Nat.le_of_ble_eq_true rfl, Nat.le_of_ble_eq_true rfl⟩) rfl rfl hl.1 rfl (lv_room (Nat.le_of_ble_eq_true rfl)) dX4_tryLetter_4 ⟨Nat.le_of_ble_eq_true rfl, Nat.le_of_ble_eq_true rfl⟩) hS (fun H locs hP hD hS => ?_)
        have hP : va_P D vwCl (zWT cI cJ h (n, L) (kt, km, kl) (pt, pm, pl) (nu, le, ow, fo, run, wc, lc, tr, cl, tm, (ms9 + 1)) (yl, yc, yt, co, pa, su, sc) mc ++ R) _ := hP
        have hD : va_D (zAb B) (zWT cI cJ h (n, L) (kt, km, kl) (pt, pm, pl) (nu, le, ow, fo, run, wc, lc, tr, cl, tm, (ms9 + 1)) (yl, yc, yt, co, pa, su, sc) mc ++ R) := hD
        refine lv_if_ne (tgt := 14) hx hb dX4_tryLetter_7 (by decide) (fun c_19 => ?_) (fun c_19 => ?_)
        · skip
          have c_19 : ¬ (ms9 + 1) = 0 := fun hh => c_19 ((nI_eq (a := (ms9 + 1)) (b := 0) (by omega) (by omega)).mpr hh)
          refine lv_iconst (v := 0) hx hb dX4_tryLetter_14 (by decide) ?_
          refine lv_istore_n (lv' := [(2, .int 0), (0, .ref (h 0)), (1, .int time)]) hx hb dX4_tryLetter_15 rfl hl (by decide) rfl (fun ls hl => ?_)
          refine lv_aload_n hx hb dX4_tryLetter_16 rfl (lv_at hl 1 rfl) ?_
          refine va_get (ci := 4) (v := .ref (h 11)) (C := RX4) (T := TX4) (N := 6) hx hb hts hinX4 hown hK hP 0 rfl rfl 3 (by decide) (hts (.fieldLink RX4 31 "TypingTutor" "current" "LTypingTutor$Lesson;") (List.mem_of_getElem? (i := 1) rfl)) (fun _ h9 => h9) rfl dX4_tryLetter_17 ?_
          refine zci (zrV (As := []) (rest := []) ⟨hx, hb, hml, hown, hts⟩ (zV 11 hP hD hK hE hB hS rfl rfl) (c_X2_letterHere  (by omega)) (cwV 0 hts gX4_tryLetter_X2_letterHere rfl rfl rfl hdv_X2_letterHere ⟨Nat.le_of_ble_eq_true rfl, Nat.le_of_ble_eq_true rfl⟩) rfl rfl hl.1 rfl (lv_room (Nat.le_of_ble_eq_true rfl)) dX4_tryLetter_20 ⟨Nat.le_of_ble_eq_true rfl, Nat.le_of_ble_eq_true rfl⟩) hS (fun H locs hP hD hS => ?_)
          have hP : va_P D vwCl (zWT cI cJ h (n, L) (kt, km, kl) (pt, pm, pl) (nu, le, ow, fo, run, wc, lc, tr, cl, tm, (ms9 + 1)) (yl, yc, yt, co, pa, su, sc) mc ++ R) _ := hP
          have hD : va_D (zAb B) (zWT cI cJ h (n, L) (kt, km, kl) (pt, pm, pl) (nu, le, ow, fo, run, wc, lc, tr, cl, tm, (ms9 + 1)) (yl, yc, yt, co, pa, su, sc) mc ++ R) := hD
          rw [show (le tr) = (nI x) from hx9]
          refine lv_istore_n (lv' := [(3, .int (nI x)), (2, .int 0), (0, .ref (h 0)), (1, .int time)]) hx hb dX4_tryLetter_23 rfl hl (by decide) rfl (fun ls hl => ?_)
          refine lv_aload_n hx hb dX4_tryLetter_24 rfl (lv_at hl 2 rfl) ?_
          refine va_get (ci := 4) (v := .ref (h 11)) (C := RX4) (T := TX4) (N := 6) hx hb hts hinX4 hown hK hP 0 rfl rfl 3 (by decide) (hts (.fieldLink RX4 31 "TypingTutor" "current" "LTypingTutor$Lesson;") (List.mem_of_getElem? (i := 1) rfl)) (fun _ h9 => h9) rfl dX4_tryLetter_25 ?_
          refine zci (zrV (As := []) (rest := []) ⟨hx, hb, hml, hown, hts⟩ (zV 11 hP hD hK hE hB hS rfl rfl) (c_X2_letterBefore  (by omega) (by omega)) (cwV 0 hts gX4_tryLetter_X2_letterBefore rfl rfl rfl hdv_X2_letterBefore ⟨Nat.le_of_ble_eq_true rfl, Nat.le_of_ble_eq_true rfl⟩) rfl rfl hl.1 rfl (lv_room (Nat.le_of_ble_eq_true rfl)) dX4_tryLetter_28 ⟨Nat.le_of_ble_eq_true rfl, Nat.le_of_ble_eq_true rfl⟩) hS (fun H locs hP hD hS => ?_)
          have hP : va_P D vwCl (zWT cI cJ h (n, L) (kt, km, kl) (pt, pm, pl) (nu, le, ow, fo, run, wc, lc, tr, cl, tm, (ms9 + 1)) (yl, yc, yt, co, pa, su, sc) mc ++ R) _ := hP
          have hD : va_D (zAb B) (zWT cI cJ h (n, L) (kt, km, kl) (pt, pm, pl) (nu, le, ow, fo, run, wc, lc, tr, cl, tm, (ms9 + 1)) (yl, yc, yt, co, pa, su, sc) mc ++ R) := hD
          rw [show (zis le ow lc tr (nI tr - 1)) = (nI o9) from ho]
          refine lv_istore (lv' := [(4, .int (nI o9)), (3, .int (nI x)), (2, .int 0), (0, .ref (h 0)), (1, .int time)]) hx hb dX4_tryLetter_31 hl (by decide) rfl (fun ls hl => ?_)
          refine lv_aload_n hx hb dX4_tryLetter_33 rfl (lv_at hl 3 rfl) ?_
          refine va_get (ci := 4) (v := .ref (h 3)) (C := RX4) (T := TX4) (N := 6) hx hb hts hinX4 hown hK hP 0 rfl rfl 1 (by decide) (hts (.fieldLink RX4 21 "TypingTutor" "keys" "LTypingTutor$Knowledge;") (List.mem_of_getElem? (i := 2) rfl)) (fun _ h9 => h9) rfl dX4_tryLetter_34 ?_
          refine lv_iload_n hx hb dX4_tryLetter_37 rfl (lv_at hl 1 rfl) ?_
          refine lv_iload_n hx hb dX4_tryLetter_38 rfl (lv_at hl 2 rfl) ?_
          refine lv_iload_n hx hb dX4_tryLetter_39 rfl (lv_at hl 4 rfl) ?_
          refine zcv (zrV (As := [.int (nI x), .int 0, .int time]) (rest := []) ⟨hx, hb, hml, hown, hts⟩ (zV 3 hP hD hK hE hB hS rfl rfl) (c_X1_learn_k (k := x) (b := false) (by omega)) (cwV 3 hts gX4_tryLetter_X1_learn rfl rfl rfl hdv_X1_learn ⟨Nat.le_of_ble_eq_true rfl, Nat.le_of_ble_eq_true rfl⟩) rfl rfl hl.1 rfl (lv_room (Nat.le_of_ble_eq_true rfl)) dX4_tryLetter_40 ⟨Nat.le_of_ble_eq_true rfl, Nat.le_of_ble_eq_true rfl⟩) hS (fun H locs hP hD hS => ?_)
          have hP : va_P D vwCl (zWT cI cJ h (n, L) ((zkt kt x), (zkm false km x), (zkl false kl x time)) (pt, pm, pl) (nu, le, ow, fo, run, wc, lc, tr, cl, tm, (ms9 + 1)) (yl, yc, yt, co, pa, su, sc) mc ++ R) _ := hP
          have hD : va_D (zAb B) (zWT cI cJ h (n, L) ((zkt kt x), (zkm false km x), (zkl false kl x time)) (pt, pm, pl) (nu, le, ow, fo, run, wc, lc, tr, cl, tm, (ms9 + 1)) (yl, yc, yt, co, pa, su, sc) mc ++ R) := hD
          refine lv_iload hx hb dX4_tryLetter_43 (lv_at hl 0 rfl) ?_
          refine lv_iconst (v := (-1)) hx hb dX4_tryLetter_45 (by decide) ?_
          refine lv_icmp_eq (tgt := 64) hx hb dX4_tryLetter_46 (by decide) (fun c_20 => ?_) (fun c_20 => ?_)
          · skip
            exact absurd c_20 (nI_m1 (by omega))
          · skip
            refine lv_aload_n hx hb dX4_tryLetter_49 rfl (lv_at hl 3 rfl) ?_
            refine va_get (ci := 4) (v := .ref (h 7)) (C := RX4) (T := TX4) (N := 6) hx hb hts hinX4 hown hK hP 0 rfl rfl 2 (by decide) (hts (.fieldLink RX4 25 "TypingTutor" "pairs" "LTypingTutor$Knowledge;") (List.mem_of_getElem? (i := 3) rfl)) (fun _ h9 => h9) rfl dX4_tryLetter_50 ?_
            refine lv_iload hx hb dX4_tryLetter_53 (lv_at hl 0 rfl) ?_
            refine lv_iload_n hx hb dX4_tryLetter_55 rfl (lv_at hl 1 rfl) ?_
            refine zci (zrS (As := [.int (nI o9), .int (nI x)]) (rest := [.ref (h 7)]) ⟨hx, hb, hml, hown, hts⟩ (zS hP hD hK hE hB hS) (c_X4_pairOf  ) (va_cwS 2 hts gX4_tryLetter_X4_pairOf rfl rfl rfl hds_X4_pairOf ⟨Nat.le_of_ble_eq_true rfl, Nat.le_of_ble_eq_true rfl⟩) rfl rfl hl.1 rfl (lv_room (Nat.le_of_ble_eq_true rfl)) dX4_tryLetter_56 ⟨Nat.le_of_ble_eq_true rfl, Nat.le_of_ble_eq_true rfl⟩) hS (fun H locs hP hD hS => ?_)
            have hP : va_P D vwCl (zWT cI cJ h (n, L) ((zkt kt x), (zkm false km x), (zkl false kl x time)) (pt, pm, pl) (nu, le, ow, fo, run, wc, lc, tr, cl, tm, (ms9 + 1)) (yl, yc, yt, co, pa, su, sc) mc ++ R) _ := hP
            have hD : va_D (zAb B) (zWT cI cJ h (n, L) ((zkt kt x), (zkm false km x), (zkl false kl x time)) (pt, pm, pl) (nu, le, ow, fo, run, wc, lc, tr, cl, tm, (ms9 + 1)) (yl, yc, yt, co, pa, su, sc) mc ++ R) := hD
            rw [show (26 * (nI o9) + (nI x)) = (nI (26 * o9 + x)) from (by rw [show (26 : Int32) = nI 26 from rfl, pk_mul, nI_add])]
            refine lv_iload_n hx hb dX4_tryLetter_59 rfl (lv_at hl 2 rfl) ?_
            refine lv_iload_n hx hb dX4_tryLetter_60 rfl (lv_at hl 4 rfl) ?_
            refine zcv (zrV (As := [.int (nI (26 * o9 + x)), .int 0, .int time]) (rest := []) ⟨hx, hb, hml, hown, hts⟩ (zV 7 hP hD hK hE hB hS rfl rfl) (c_X1_learn_p (k := (26 * o9 + x)) (b := false) (by omega)) (cwV 3 hts gX4_tryLetter_X1_learn rfl rfl rfl hdv_X1_learn ⟨Nat.le_of_ble_eq_true rfl, Nat.le_of_ble_eq_true rfl⟩) rfl rfl hl.1 rfl (lv_room (Nat.le_of_ble_eq_true rfl)) dX4_tryLetter_61 ⟨Nat.le_of_ble_eq_true rfl, Nat.le_of_ble_eq_true rfl⟩) hS (fun H locs hP hD hS => ?_)
            have hP : va_P D vwCl (zWT cI cJ h (n, L) ((zkt kt x), (zkm false km x), (zkl false kl x time)) ((zkt pt (26 * o9 + x)), (zkm false pm (26 * o9 + x)), (zkl false pl (26 * o9 + x) time)) (nu, le, ow, fo, run, wc, lc, tr, cl, tm, (ms9 + 1)) (yl, yc, yt, co, pa, su, sc) mc ++ R) _ := hP
            have hD : va_D (zAb B) (zWT cI cJ h (n, L) ((zkt kt x), (zkm false km x), (zkl false kl x time)) ((zkt pt (26 * o9 + x)), (zkm false pm (26 * o9 + x)), (zkl false pl (26 * o9 + x) time)) (nu, le, ow, fo, run, wc, lc, tr, cl, tm, (ms9 + 1)) (yl, yc, yt, co, pa, su, sc) mc ++ R) := hD
            refine lv_aload_n hx hb dX4_tryLetter_64 rfl (lv_at hl 3 rfl) ?_
            refine va_get (ci := 4) (v := .ref (h 11)) (C := RX4) (T := TX4) (N := 6) hx hb hts hinX4 hown hK hP 0 rfl rfl 3 (by decide) (hts (.fieldLink RX4 31 "TypingTutor" "current" "LTypingTutor$Lesson;") (List.mem_of_getElem? (i := 1) rfl)) (fun _ h9 => h9) rfl dX4_tryLetter_65 ?_
            refine lv_iload_n hx hb dX4_tryLetter_68 rfl (lv_at hl 2 rfl) ?_
            refine zcv (zrV (As := [.int 0]) (rest := []) ⟨hx, hb, hml, hown, hts⟩ (zV 11 hP hD hK hE hB hS rfl rfl) (c_X2_goOn_0  ) (cwV 1 hts gX4_tryLetter_X2_goOn rfl rfl rfl hdv_X2_goOn ⟨Nat.le_of_ble_eq_true rfl, Nat.le_of_ble_eq_true rfl⟩) rfl rfl hl.1 rfl (lv_room (Nat.le_of_ble_eq_true rfl)) dX4_tryLetter_69 ⟨Nat.le_of_ble_eq_true rfl, Nat.le_of_ble_eq_true rfl⟩) hS (fun H locs hP hD hS => ?_)
            have hP : va_P D vwCl (zWT cI cJ h (n, L) ((zkt kt x), (zkm false km x), (zkl false kl x time)) ((zkt pt (26 * o9 + x)), (zkm false pm (26 * o9 + x)), (zkl false pl (26 * o9 + x) time)) (nu, le, ow, fo, run, wc, lc, (tr + 1), cl, tm, 0) (yl, yc, yt, co, pa, su, sc) mc ++ R) _ := hP
            have hD : va_D (zAb B) (zWT cI cJ h (n, L) ((zkt kt x), (zkm false km x), (zkl false kl x time)) ((zkt pt (26 * o9 + x)), (zkm false pm (26 * o9 + x)), (zkl false pl (26 * o9 + x) time)) (nu, le, ow, fo, run, wc, lc, (tr + 1), cl, tm, 0) (yl, yc, yt, co, pa, su, sc) mc ++ R) := hD
            refine lv_aload_n hx hb dX4_tryLetter_72 rfl (lv_at hl 3 rfl) ?_
            refine va_get (ci := 4) (v := .ref (h 11)) (C := RX4) (T := TX4) (N := 6) hx hb hts hinX4 hown hK hP 0 rfl rfl 3 (by decide) (hts (.fieldLink RX4 31 "TypingTutor" "current" "LTypingTutor$Lesson;") (List.mem_of_getElem? (i := 1) rfl)) (fun _ h9 => h9) rfl dX4_tryLetter_73 ?_
            refine zci (zrV (As := []) (rest := []) ⟨hx, hb, hml, hown, hts⟩ (zV 11 hP hD hK hE hB hS rfl rfl) (c_X2_triedTotal  ) (cwV 0 hts gX4_tryLetter_X2_triedTotal rfl rfl rfl hdv_X2_triedTotal ⟨Nat.le_of_ble_eq_true rfl, Nat.le_of_ble_eq_true rfl⟩) rfl rfl hl.1 rfl (lv_room (Nat.le_of_ble_eq_true rfl)) dX4_tryLetter_76 ⟨Nat.le_of_ble_eq_true rfl, Nat.le_of_ble_eq_true rfl⟩) hS (fun H locs hP hD hS => ?_)
            have hP : va_P D vwCl (zWT cI cJ h (n, L) ((zkt kt x), (zkm false km x), (zkl false kl x time)) ((zkt pt (26 * o9 + x)), (zkm false pm (26 * o9 + x)), (zkl false pl (26 * o9 + x) time)) (nu, le, ow, fo, run, wc, lc, (tr + 1), cl, tm, 0) (yl, yc, yt, co, pa, su, sc) mc ++ R) _ := hP
            have hD : va_D (zAb B) (zWT cI cJ h (n, L) ((zkt kt x), (zkm false km x), (zkl false kl x time)) ((zkt pt (26 * o9 + x)), (zkm false pm (26 * o9 + x)), (zkl false pl (26 * o9 + x) time)) (nu, le, ow, fo, run, wc, lc, (tr + 1), cl, tm, 0) (yl, yc, yt, co, pa, su, sc) mc ++ R) := hD
            refine lv_aload_n hx hb dX4_tryLetter_79 rfl (lv_at hl 3 rfl) ?_
            refine va_get (ci := 4) (v := .ref (h 11)) (C := RX4) (T := TX4) (N := 6) hx hb hts hinX4 hown hK hP 0 rfl rfl 3 (by decide) (hts (.fieldLink RX4 31 "TypingTutor" "current" "LTypingTutor$Lesson;") (List.mem_of_getElem? (i := 1) rfl)) (fun _ h9 => h9) rfl dX4_tryLetter_80 ?_
            refine zci (zrV (As := []) (rest := [.int (nI (tr + 1))]) ⟨hx, hb, hml, hown, hts⟩ (zV 11 hP hD hK hE hB hS rfl rfl) (c_X2_letterTotal  ) (cwV 0 hts gX4_tryLetter_X2_letterTotal rfl rfl rfl hdv_X2_letterTotal ⟨Nat.le_of_ble_eq_true rfl, Nat.le_of_ble_eq_true rfl⟩) rfl rfl hl.1 rfl (lv_room (Nat.le_of_ble_eq_true rfl)) dX4_tryLetter_83 ⟨Nat.le_of_ble_eq_true rfl, Nat.le_of_ble_eq_true rfl⟩) hS (fun H locs hP hD hS => ?_)
            have hP : va_P D vwCl (zWT cI cJ h (n, L) ((zkt kt x), (zkm false km x), (zkl false kl x time)) ((zkt pt (26 * o9 + x)), (zkm false pm (26 * o9 + x)), (zkl false pl (26 * o9 + x) time)) (nu, le, ow, fo, run, wc, lc, (tr + 1), cl, tm, 0) (yl, yc, yt, co, pa, su, sc) mc ++ R) _ := hP
            have hD : va_D (zAb B) (zWT cI cJ h (n, L) ((zkt kt x), (zkm false km x), (zkl false kl x time)) ((zkt pt (26 * o9 + x)), (zkm false pm (26 * o9 + x)), (zkl false pl (26 * o9 + x) time)) (nu, le, ow, fo, run, wc, lc, (tr + 1), cl, tm, 0) (yl, yc, yt, co, pa, su, sc) mc ++ R) := hD
            refine lv_icmp_lt (tgt := 124) hx hb dX4_tryLetter_86 (by decide) (fun c_21 => ?_) (fun c_21 => ?_)
            · skip
              have c_21 : (tr + 1) < lc := (nI_ltI (a := (tr + 1)) (b := lc) (by omega) (by omega)).mp c_21
              omega
            · skip
              have c_21 : ¬ (tr + 1) < lc := fun hh => c_21 ((nI_ltI (a := (tr + 1)) (b := lc) (by omega) (by omega)).mpr hh)
              refine lv_aload_n hx hb dX4_tryLetter_89 rfl (lv_at hl 3 rfl) ?_
              refine va_get (ci := 4) (v := .ref (h 11)) (C := RX4) (T := TX4) (N := 6) hx hb hts hinX4 hown hK hP 0 rfl rfl 3 (by decide) (hts (.fieldLink RX4 31 "TypingTutor" "current" "LTypingTutor$Lesson;") (List.mem_of_getElem? (i := 1) rfl)) (fun _ h9 => h9) rfl dX4_tryLetter_90 ?_
              refine zcv (zrV (As := []) (rest := []) ⟨hx, hb, hml, hown, hts⟩ (zV 11 hP hD hK hE hB hS rfl rfl) (c_X2_stop  ) (cwV 0 hts gX4_tryLetter_X2_stop rfl rfl rfl hdv_X2_stop ⟨Nat.le_of_ble_eq_true rfl, Nat.le_of_ble_eq_true rfl⟩) rfl rfl hl.1 rfl (lv_room (Nat.le_of_ble_eq_true rfl)) dX4_tryLetter_93 ⟨Nat.le_of_ble_eq_true rfl, Nat.le_of_ble_eq_true rfl⟩) hS (fun H locs hP hD hS => ?_)
              have hP : va_P D vwCl (zWT cI cJ h (n, L) ((zkt kt x), (zkm false km x), (zkl false kl x time)) ((zkt pt (26 * o9 + x)), (zkm false pm (26 * o9 + x)), (zkl false pl (26 * o9 + x) time)) (nu, le, ow, fo, false, wc, lc, (tr + 1), cl, tm, 0) (yl, yc, yt, co, pa, su, sc) mc ++ R) _ := hP
              have hD : va_D (zAb B) (zWT cI cJ h (n, L) ((zkt kt x), (zkm false km x), (zkl false kl x time)) ((zkt pt (26 * o9 + x)), (zkm false pm (26 * o9 + x)), (zkl false pl (26 * o9 + x) time)) (nu, le, ow, fo, false, wc, lc, (tr + 1), cl, tm, 0) (yl, yc, yt, co, pa, su, sc) mc ++ R) := hD
              refine lv_aload_n hx hb dX4_tryLetter_96 rfl (lv_at hl 3 rfl) ?_
              refine va_get (ci := 4) (v := .ref (h 16)) (C := RX4) (T := TX4) (N := 6) hx hb hts hinX4 hown hK hP 0 rfl rfl 4 (by decide) (hts (.fieldLink RX4 38 "TypingTutor" "past" "LTypingTutor$History;") (List.mem_of_getElem? (i := 4) rfl)) (fun _ h9 => h9) rfl dX4_tryLetter_97 ?_
              refine lv_aload_n hx hb dX4_tryLetter_100 rfl (lv_at hl 3 rfl) ?_
              refine va_get (ci := 4) (v := .ref (h 11)) (C := RX4) (T := TX4) (N := 6) hx hb hts hinX4 hown hK hP 0 rfl rfl 3 (by decide) (hts (.fieldLink RX4 31 "TypingTutor" "current" "LTypingTutor$Lesson;") (List.mem_of_getElem? (i := 1) rfl)) (fun _ h9 => h9) rfl dX4_tryLetter_101 ?_
              refine zci (zrV (As := []) (rest := [.ref (h 16)]) ⟨hx, hb, hml, hown, hts⟩ (zV 11 hP hD hK hE hB hS rfl rfl) (c_X2_letterTotal  ) (cwV 0 hts gX4_tryLetter_X2_letterTotal rfl rfl rfl hdv_X2_letterTotal ⟨Nat.le_of_ble_eq_true rfl, Nat.le_of_ble_eq_true rfl⟩) rfl rfl hl.1 rfl (lv_room (Nat.le_of_ble_eq_true rfl)) dX4_tryLetter_104 ⟨Nat.le_of_ble_eq_true rfl, Nat.le_of_ble_eq_true rfl⟩) hS (fun H locs hP hD hS => ?_)
              have hP : va_P D vwCl (zWT cI cJ h (n, L) ((zkt kt x), (zkm false km x), (zkl false kl x time)) ((zkt pt (26 * o9 + x)), (zkm false pm (26 * o9 + x)), (zkl false pl (26 * o9 + x) time)) (nu, le, ow, fo, false, wc, lc, (tr + 1), cl, tm, 0) (yl, yc, yt, co, pa, su, sc) mc ++ R) _ := hP
              have hD : va_D (zAb B) (zWT cI cJ h (n, L) ((zkt kt x), (zkm false km x), (zkl false kl x time)) ((zkt pt (26 * o9 + x)), (zkm false pm (26 * o9 + x)), (zkl false pl (26 * o9 + x) time)) (nu, le, ow, fo, false, wc, lc, (tr + 1), cl, tm, 0) (yl, yc, yt, co, pa, su, sc) mc ++ R) := hD
              refine lv_aload_n hx hb dX4_tryLetter_107 rfl (lv_at hl 3 rfl) ?_
              refine va_get (ci := 4) (v := .ref (h 11)) (C := RX4) (T := TX4) (N := 6) hx hb hts hinX4 hown hK hP 0 rfl rfl 3 (by decide) (hts (.fieldLink RX4 31 "TypingTutor" "current" "LTypingTutor$Lesson;") (List.mem_of_getElem? (i := 1) rfl)) (fun _ h9 => h9) rfl dX4_tryLetter_108 ?_
              refine zci (zrV (As := []) (rest := [.int (nI lc), .ref (h 16)]) ⟨hx, hb, hml, hown, hts⟩ (zV 11 hP hD hK hE hB hS rfl rfl) (c_X2_cleanTotal  ) (cwV 0 hts gX4_tryLetter_X2_cleanTotal rfl rfl rfl hdv_X2_cleanTotal ⟨Nat.le_of_ble_eq_true rfl, Nat.le_of_ble_eq_true rfl⟩) rfl rfl hl.1 rfl (lv_room (Nat.le_of_ble_eq_true rfl)) dX4_tryLetter_111 ⟨Nat.le_of_ble_eq_true rfl, Nat.le_of_ble_eq_true rfl⟩) hS (fun H locs hP hD hS => ?_)
              have hP : va_P D vwCl (zWT cI cJ h (n, L) ((zkt kt x), (zkm false km x), (zkl false kl x time)) ((zkt pt (26 * o9 + x)), (zkm false pm (26 * o9 + x)), (zkl false pl (26 * o9 + x) time)) (nu, le, ow, fo, false, wc, lc, (tr + 1), cl, tm, 0) (yl, yc, yt, co, pa, su, sc) mc ++ R) _ := hP
              have hD : va_D (zAb B) (zWT cI cJ h (n, L) ((zkt kt x), (zkm false km x), (zkl false kl x time)) ((zkt pt (26 * o9 + x)), (zkm false pm (26 * o9 + x)), (zkl false pl (26 * o9 + x) time)) (nu, le, ow, fo, false, wc, lc, (tr + 1), cl, tm, 0) (yl, yc, yt, co, pa, su, sc) mc ++ R) := hD
              refine lv_aload_n hx hb dX4_tryLetter_114 rfl (lv_at hl 3 rfl) ?_
              refine va_get (ci := 4) (v := .ref (h 11)) (C := RX4) (T := TX4) (N := 6) hx hb hts hinX4 hown hK hP 0 rfl rfl 3 (by decide) (hts (.fieldLink RX4 31 "TypingTutor" "current" "LTypingTutor$Lesson;") (List.mem_of_getElem? (i := 1) rfl)) (fun _ h9 => h9) rfl dX4_tryLetter_115 ?_
              refine zci (zrV (As := []) (rest := [.int (nI cl), .int (nI lc), .ref (h 16)]) ⟨hx, hb, hml, hown, hts⟩ (zV 11 hP hD hK hE hB hS rfl rfl) (c_X2_timeSum  ) (cwV 0 hts gX4_tryLetter_X2_timeSum rfl rfl rfl hdv_X2_timeSum ⟨Nat.le_of_ble_eq_true rfl, Nat.le_of_ble_eq_true rfl⟩) rfl rfl hl.1 rfl (lv_room (Nat.le_of_ble_eq_true rfl)) dX4_tryLetter_118 ⟨Nat.le_of_ble_eq_true rfl, Nat.le_of_ble_eq_true rfl⟩) hS (fun H locs hP hD hS => ?_)
              have hP : va_P D vwCl (zWT cI cJ h (n, L) ((zkt kt x), (zkm false km x), (zkl false kl x time)) ((zkt pt (26 * o9 + x)), (zkm false pm (26 * o9 + x)), (zkl false pl (26 * o9 + x) time)) (nu, le, ow, fo, false, wc, lc, (tr + 1), cl, tm, 0) (yl, yc, yt, co, pa, su, sc) mc ++ R) _ := hP
              have hD : va_D (zAb B) (zWT cI cJ h (n, L) ((zkt kt x), (zkm false km x), (zkl false kl x time)) ((zkt pt (26 * o9 + x)), (zkm false pm (26 * o9 + x)), (zkl false pl (26 * o9 + x) time)) (nu, le, ow, fo, false, wc, lc, (tr + 1), cl, tm, 0) (yl, yc, yt, co, pa, su, sc) mc ++ R) := hD
              refine zcv (zrV (As := [.int (nI lc), .int (nI cl), .int (nI tm)]) (rest := []) ⟨hx, hb, hml, hown, hts⟩ (zV 16 hP hD hK hE hB hS rfl rfl) (c_X0_keep (lt := lc) (ct := cl) (ts := tm) (by omega) (by omega) (by omega)) (cwV 3 hts gX4_tryLetter_X0_keep rfl rfl rfl hdv_X0_keep ⟨Nat.le_of_ble_eq_true rfl, Nat.le_of_ble_eq_true rfl⟩) rfl rfl hl.1 rfl (lv_room (Nat.le_of_ble_eq_true rfl)) dX4_tryLetter_121 ⟨Nat.le_of_ble_eq_true rfl, Nat.le_of_ble_eq_true rfl⟩) hS (fun H locs hP hD hS => ?_)
              have hP : va_P D vwCl (zWT cI cJ h (n, L) ((zkt kt x), (zkm false km x), (zkl false kl x time)) ((zkt pt (26 * o9 + x)), (zkm false pm (26 * o9 + x)), (zkl false pl (26 * o9 + x) time)) (nu, le, ow, fo, false, wc, lc, (tr + 1), cl, tm, 0) ((upd yl co (nI lc)), (upd yc co (nI cl)), (upd yt co (nI tm)), (co + 1), (zpc pa lc cl), (su + lc), (sc + cl)) mc ++ R) _ := hP
              have hD : va_D (zAb B) (zWT cI cJ h (n, L) ((zkt kt x), (zkm false km x), (zkl false kl x time)) ((zkt pt (26 * o9 + x)), (zkm false pm (26 * o9 + x)), (zkl false pl (26 * o9 + x) time)) (nu, le, ow, fo, false, wc, lc, (tr + 1), cl, tm, 0) ((upd yl co (nI lc)), (upd yc co (nI cl)), (upd yt co (nI tm)), (co + 1), (zpc pa lc cl), (su + lc), (sc + cl)) mc ++ R) := hD
              exact W.vret hx hb hr (fun t ht hW => ⟨⟨(), rfl, trivial, by rw [ht]; exact hP, hD⟩, hS.F ht⟩) hS.2.2 dX4_tryLetter_124
        · skip
          have c_19 : (ms9 + 1) = 0 := (nI_eq (a := (ms9 + 1)) (b := 0) (by omega) (by omega)).mp c_19
          omega
      | false =>
        refine Met.ofW (cc := cX4_tryLetter) (maxL := 5) (ret := none) (by decide) rfl ?_
        intro p e s m args below meth c s₁ B0 hml hv
        obtain ⟨rfl, hP, hD, hK, hE, hB⟩ := hv
        have hx := B0.exec
        have hb := B0.bytes
        have hr := B0.returns
        have hts := atoms_spec (ws := wsX4_tryLetter) B0.pre
        have hown : s.vm.findClass RX4 = some m.cls := findClass_of_methodNamed B0.named
        have hlocks := B0.notSynchronized
        have hA : ∀ q : Nat, s.heap.size ≤ q → zAb B q := fun q hq => Nat.le_trans hB hq
        have hS : va_S (zAb B) s.heap s.heap [] := va_S.rf
        have hgr : s.heap.size ≤ s.heap.size := Nat.le_refl _
        have hl := lv_entry ([.ref (h 0), .int time]) (n := 5) (Nat.le_of_ble_eq_true rfl)
        rw [lg_entry_eq]
        generalize (lg_sl ([.ref (h 0), .int time]) ++ List.replicate (5 - (lg_sl ([.ref (h 0), .int time])).length) Slot.unset).toArray = ls at hl ⊢
        have hl : lv_has ls 5 [(0, .ref (h 0)), (1, .int time)] := hl
        have hinX4 : ∀ w ∈ wsX40, w ∈ wsX4_tryLetter := fun _ h => List.mem_cons_of_mem _ (List.mem_append_left _ (List.mem_append_left _ (List.mem_append_left _ (List.mem_append_right _ h))))
        have hP : va_P D vwCl (zWT cI cJ h (n, L) (kt, km, kl) (pt, pm, pl) (nu, le, ow, fo, run, wc, lc, tr, cl, tm, (ms9 + 1)) (yl, yc, yt, co, pa, su, sc) mc ++ R) s.heap := hP
        have hD : va_D (zAb B) (zWT cI cJ h (n, L) (kt, km, kl) (pt, pm, pl) (nu, le, ow, fo, run, wc, lc, tr, cl, tm, (ms9 + 1)) (yl, yc, yt, co, pa, su, sc) mc ++ R) := hD
        have hy : o9 < 26 := hoy o9 rfl
        have hf : tr + 1 < lc := hf
        refine lv_aload_n hx hb dX4_tryLetter_0 rfl (lv_at hl 0 rfl) ?_
        refine va_get (ci := 4) (v := .ref (h 11)) (C := RX4) (T := TX4) (N := 6) hx hb hts hinX4 hown hK hP 0 rfl rfl 3 (by decide) (hts (.fieldLink RX4 31 "TypingTutor" "current" "LTypingTutor$Lesson;") (List.mem_of_getElem? (i := 1) rfl)) (fun _ h9 => h9) rfl dX4_tryLetter_1 ?_
        refine zci (zrV (As := []) (rest := []) ⟨hx, hb, hml, hown, hts⟩ (zV 11 hP hD hK hE hB hS rfl rfl) (c_X2_mistakesHere  ) (cwV 0 hts gX4_tryLetter_X2_mistakesHere rfl rfl rfl hdv_X2_mistakesHere ⟨Nat.le_of_ble_eq_true rfl, Nat.le_of_ble_eq_true rfl⟩) rfl rfl hl.1 rfl (lv_room (Nat.le_of_ble_eq_true rfl)) dX4_tryLetter_4 ⟨Nat.le_of_ble_eq_true rfl, Nat.le_of_ble_eq_true rfl⟩) hS (fun H locs hP hD hS => ?_)
        have hP : va_P D vwCl (zWT cI cJ h (n, L) (kt, km, kl) (pt, pm, pl) (nu, le, ow, fo, run, wc, lc, tr, cl, tm, (ms9 + 1)) (yl, yc, yt, co, pa, su, sc) mc ++ R) _ := hP
        have hD : va_D (zAb B) (zWT cI cJ h (n, L) (kt, km, kl) (pt, pm, pl) (nu, le, ow, fo, run, wc, lc, tr, cl, tm, (ms9 + 1)) (yl, yc, yt, co, pa, su, sc) mc ++ R) := hD
        refine lv_if_ne (tgt := 14) hx hb dX4_tryLetter_7 (by decide) (fun c_22 => ?_) (fun c_22 => ?_)
        · skip
          have c_22 : ¬ (ms9 + 1) = 0 := fun hh => c_22 ((nI_eq (a := (ms9 + 1)) (b := 0) (by omega) (by omega)).mpr hh)
          refine lv_iconst (v := 0) hx hb dX4_tryLetter_14 (by decide) ?_
          refine lv_istore_n (lv' := [(2, .int 0), (0, .ref (h 0)), (1, .int time)]) hx hb dX4_tryLetter_15 rfl hl (by decide) rfl (fun ls hl => ?_)
          refine lv_aload_n hx hb dX4_tryLetter_16 rfl (lv_at hl 1 rfl) ?_
          refine va_get (ci := 4) (v := .ref (h 11)) (C := RX4) (T := TX4) (N := 6) hx hb hts hinX4 hown hK hP 0 rfl rfl 3 (by decide) (hts (.fieldLink RX4 31 "TypingTutor" "current" "LTypingTutor$Lesson;") (List.mem_of_getElem? (i := 1) rfl)) (fun _ h9 => h9) rfl dX4_tryLetter_17 ?_
          refine zci (zrV (As := []) (rest := []) ⟨hx, hb, hml, hown, hts⟩ (zV 11 hP hD hK hE hB hS rfl rfl) (c_X2_letterHere  (by omega)) (cwV 0 hts gX4_tryLetter_X2_letterHere rfl rfl rfl hdv_X2_letterHere ⟨Nat.le_of_ble_eq_true rfl, Nat.le_of_ble_eq_true rfl⟩) rfl rfl hl.1 rfl (lv_room (Nat.le_of_ble_eq_true rfl)) dX4_tryLetter_20 ⟨Nat.le_of_ble_eq_true rfl, Nat.le_of_ble_eq_true rfl⟩) hS (fun H locs hP hD hS => ?_)
          have hP : va_P D vwCl (zWT cI cJ h (n, L) (kt, km, kl) (pt, pm, pl) (nu, le, ow, fo, run, wc, lc, tr, cl, tm, (ms9 + 1)) (yl, yc, yt, co, pa, su, sc) mc ++ R) _ := hP
          have hD : va_D (zAb B) (zWT cI cJ h (n, L) (kt, km, kl) (pt, pm, pl) (nu, le, ow, fo, run, wc, lc, tr, cl, tm, (ms9 + 1)) (yl, yc, yt, co, pa, su, sc) mc ++ R) := hD
          rw [show (le tr) = (nI x) from hx9]
          refine lv_istore_n (lv' := [(3, .int (nI x)), (2, .int 0), (0, .ref (h 0)), (1, .int time)]) hx hb dX4_tryLetter_23 rfl hl (by decide) rfl (fun ls hl => ?_)
          refine lv_aload_n hx hb dX4_tryLetter_24 rfl (lv_at hl 2 rfl) ?_
          refine va_get (ci := 4) (v := .ref (h 11)) (C := RX4) (T := TX4) (N := 6) hx hb hts hinX4 hown hK hP 0 rfl rfl 3 (by decide) (hts (.fieldLink RX4 31 "TypingTutor" "current" "LTypingTutor$Lesson;") (List.mem_of_getElem? (i := 1) rfl)) (fun _ h9 => h9) rfl dX4_tryLetter_25 ?_
          refine zci (zrV (As := []) (rest := []) ⟨hx, hb, hml, hown, hts⟩ (zV 11 hP hD hK hE hB hS rfl rfl) (c_X2_letterBefore  (by omega) (by omega)) (cwV 0 hts gX4_tryLetter_X2_letterBefore rfl rfl rfl hdv_X2_letterBefore ⟨Nat.le_of_ble_eq_true rfl, Nat.le_of_ble_eq_true rfl⟩) rfl rfl hl.1 rfl (lv_room (Nat.le_of_ble_eq_true rfl)) dX4_tryLetter_28 ⟨Nat.le_of_ble_eq_true rfl, Nat.le_of_ble_eq_true rfl⟩) hS (fun H locs hP hD hS => ?_)
          have hP : va_P D vwCl (zWT cI cJ h (n, L) (kt, km, kl) (pt, pm, pl) (nu, le, ow, fo, run, wc, lc, tr, cl, tm, (ms9 + 1)) (yl, yc, yt, co, pa, su, sc) mc ++ R) _ := hP
          have hD : va_D (zAb B) (zWT cI cJ h (n, L) (kt, km, kl) (pt, pm, pl) (nu, le, ow, fo, run, wc, lc, tr, cl, tm, (ms9 + 1)) (yl, yc, yt, co, pa, su, sc) mc ++ R) := hD
          rw [show (zis le ow lc tr (nI tr - 1)) = (nI o9) from ho]
          refine lv_istore (lv' := [(4, .int (nI o9)), (3, .int (nI x)), (2, .int 0), (0, .ref (h 0)), (1, .int time)]) hx hb dX4_tryLetter_31 hl (by decide) rfl (fun ls hl => ?_)
          refine lv_aload_n hx hb dX4_tryLetter_33 rfl (lv_at hl 3 rfl) ?_
          refine va_get (ci := 4) (v := .ref (h 3)) (C := RX4) (T := TX4) (N := 6) hx hb hts hinX4 hown hK hP 0 rfl rfl 1 (by decide) (hts (.fieldLink RX4 21 "TypingTutor" "keys" "LTypingTutor$Knowledge;") (List.mem_of_getElem? (i := 2) rfl)) (fun _ h9 => h9) rfl dX4_tryLetter_34 ?_
          refine lv_iload_n hx hb dX4_tryLetter_37 rfl (lv_at hl 1 rfl) ?_
          refine lv_iload_n hx hb dX4_tryLetter_38 rfl (lv_at hl 2 rfl) ?_
          refine lv_iload_n hx hb dX4_tryLetter_39 rfl (lv_at hl 4 rfl) ?_
          refine zcv (zrV (As := [.int (nI x), .int 0, .int time]) (rest := []) ⟨hx, hb, hml, hown, hts⟩ (zV 3 hP hD hK hE hB hS rfl rfl) (c_X1_learn_k (k := x) (b := false) (by omega)) (cwV 3 hts gX4_tryLetter_X1_learn rfl rfl rfl hdv_X1_learn ⟨Nat.le_of_ble_eq_true rfl, Nat.le_of_ble_eq_true rfl⟩) rfl rfl hl.1 rfl (lv_room (Nat.le_of_ble_eq_true rfl)) dX4_tryLetter_40 ⟨Nat.le_of_ble_eq_true rfl, Nat.le_of_ble_eq_true rfl⟩) hS (fun H locs hP hD hS => ?_)
          have hP : va_P D vwCl (zWT cI cJ h (n, L) ((zkt kt x), (zkm false km x), (zkl false kl x time)) (pt, pm, pl) (nu, le, ow, fo, run, wc, lc, tr, cl, tm, (ms9 + 1)) (yl, yc, yt, co, pa, su, sc) mc ++ R) _ := hP
          have hD : va_D (zAb B) (zWT cI cJ h (n, L) ((zkt kt x), (zkm false km x), (zkl false kl x time)) (pt, pm, pl) (nu, le, ow, fo, run, wc, lc, tr, cl, tm, (ms9 + 1)) (yl, yc, yt, co, pa, su, sc) mc ++ R) := hD
          refine lv_iload hx hb dX4_tryLetter_43 (lv_at hl 0 rfl) ?_
          refine lv_iconst (v := (-1)) hx hb dX4_tryLetter_45 (by decide) ?_
          refine lv_icmp_eq (tgt := 64) hx hb dX4_tryLetter_46 (by decide) (fun c_23 => ?_) (fun c_23 => ?_)
          · skip
            exact absurd c_23 (nI_m1 (by omega))
          · skip
            refine lv_aload_n hx hb dX4_tryLetter_49 rfl (lv_at hl 3 rfl) ?_
            refine va_get (ci := 4) (v := .ref (h 7)) (C := RX4) (T := TX4) (N := 6) hx hb hts hinX4 hown hK hP 0 rfl rfl 2 (by decide) (hts (.fieldLink RX4 25 "TypingTutor" "pairs" "LTypingTutor$Knowledge;") (List.mem_of_getElem? (i := 3) rfl)) (fun _ h9 => h9) rfl dX4_tryLetter_50 ?_
            refine lv_iload hx hb dX4_tryLetter_53 (lv_at hl 0 rfl) ?_
            refine lv_iload_n hx hb dX4_tryLetter_55 rfl (lv_at hl 1 rfl) ?_
            refine zci (zrS (As := [.int (nI o9), .int (nI x)]) (rest := [.ref (h 7)]) ⟨hx, hb, hml, hown, hts⟩ (zS hP hD hK hE hB hS) (c_X4_pairOf  ) (va_cwS 2 hts gX4_tryLetter_X4_pairOf rfl rfl rfl hds_X4_pairOf ⟨Nat.le_of_ble_eq_true rfl, Nat.le_of_ble_eq_true rfl⟩) rfl rfl hl.1 rfl (lv_room (Nat.le_of_ble_eq_true rfl)) dX4_tryLetter_56 ⟨Nat.le_of_ble_eq_true rfl, Nat.le_of_ble_eq_true rfl⟩) hS (fun H locs hP hD hS => ?_)
            have hP : va_P D vwCl (zWT cI cJ h (n, L) ((zkt kt x), (zkm false km x), (zkl false kl x time)) (pt, pm, pl) (nu, le, ow, fo, run, wc, lc, tr, cl, tm, (ms9 + 1)) (yl, yc, yt, co, pa, su, sc) mc ++ R) _ := hP
            have hD : va_D (zAb B) (zWT cI cJ h (n, L) ((zkt kt x), (zkm false km x), (zkl false kl x time)) (pt, pm, pl) (nu, le, ow, fo, run, wc, lc, tr, cl, tm, (ms9 + 1)) (yl, yc, yt, co, pa, su, sc) mc ++ R) := hD
            rw [show (26 * (nI o9) + (nI x)) = (nI (26 * o9 + x)) from (by rw [show (26 : Int32) = nI 26 from rfl, pk_mul, nI_add])]
            refine lv_iload_n hx hb dX4_tryLetter_59 rfl (lv_at hl 2 rfl) ?_
            refine lv_iload_n hx hb dX4_tryLetter_60 rfl (lv_at hl 4 rfl) ?_
            refine zcv (zrV (As := [.int (nI (26 * o9 + x)), .int 0, .int time]) (rest := []) ⟨hx, hb, hml, hown, hts⟩ (zV 7 hP hD hK hE hB hS rfl rfl) (c_X1_learn_p (k := (26 * o9 + x)) (b := false) (by omega)) (cwV 3 hts gX4_tryLetter_X1_learn rfl rfl rfl hdv_X1_learn ⟨Nat.le_of_ble_eq_true rfl, Nat.le_of_ble_eq_true rfl⟩) rfl rfl hl.1 rfl (lv_room (Nat.le_of_ble_eq_true rfl)) dX4_tryLetter_61 ⟨Nat.le_of_ble_eq_true rfl, Nat.le_of_ble_eq_true rfl⟩) hS (fun H locs hP hD hS => ?_)
            have hP : va_P D vwCl (zWT cI cJ h (n, L) ((zkt kt x), (zkm false km x), (zkl false kl x time)) ((zkt pt (26 * o9 + x)), (zkm false pm (26 * o9 + x)), (zkl false pl (26 * o9 + x) time)) (nu, le, ow, fo, run, wc, lc, tr, cl, tm, (ms9 + 1)) (yl, yc, yt, co, pa, su, sc) mc ++ R) _ := hP
            have hD : va_D (zAb B) (zWT cI cJ h (n, L) ((zkt kt x), (zkm false km x), (zkl false kl x time)) ((zkt pt (26 * o9 + x)), (zkm false pm (26 * o9 + x)), (zkl false pl (26 * o9 + x) time)) (nu, le, ow, fo, run, wc, lc, tr, cl, tm, (ms9 + 1)) (yl, yc, yt, co, pa, su, sc) mc ++ R) := hD
            refine lv_aload_n hx hb dX4_tryLetter_64 rfl (lv_at hl 3 rfl) ?_
            refine va_get (ci := 4) (v := .ref (h 11)) (C := RX4) (T := TX4) (N := 6) hx hb hts hinX4 hown hK hP 0 rfl rfl 3 (by decide) (hts (.fieldLink RX4 31 "TypingTutor" "current" "LTypingTutor$Lesson;") (List.mem_of_getElem? (i := 1) rfl)) (fun _ h9 => h9) rfl dX4_tryLetter_65 ?_
            refine lv_iload_n hx hb dX4_tryLetter_68 rfl (lv_at hl 2 rfl) ?_
            refine zcv (zrV (As := [.int 0]) (rest := []) ⟨hx, hb, hml, hown, hts⟩ (zV 11 hP hD hK hE hB hS rfl rfl) (c_X2_goOn_0  ) (cwV 1 hts gX4_tryLetter_X2_goOn rfl rfl rfl hdv_X2_goOn ⟨Nat.le_of_ble_eq_true rfl, Nat.le_of_ble_eq_true rfl⟩) rfl rfl hl.1 rfl (lv_room (Nat.le_of_ble_eq_true rfl)) dX4_tryLetter_69 ⟨Nat.le_of_ble_eq_true rfl, Nat.le_of_ble_eq_true rfl⟩) hS (fun H locs hP hD hS => ?_)
            have hP : va_P D vwCl (zWT cI cJ h (n, L) ((zkt kt x), (zkm false km x), (zkl false kl x time)) ((zkt pt (26 * o9 + x)), (zkm false pm (26 * o9 + x)), (zkl false pl (26 * o9 + x) time)) (nu, le, ow, fo, run, wc, lc, (tr + 1), cl, tm, 0) (yl, yc, yt, co, pa, su, sc) mc ++ R) _ := hP
            have hD : va_D (zAb B) (zWT cI cJ h (n, L) ((zkt kt x), (zkm false km x), (zkl false kl x time)) ((zkt pt (26 * o9 + x)), (zkm false pm (26 * o9 + x)), (zkl false pl (26 * o9 + x) time)) (nu, le, ow, fo, run, wc, lc, (tr + 1), cl, tm, 0) (yl, yc, yt, co, pa, su, sc) mc ++ R) := hD
            refine lv_aload_n hx hb dX4_tryLetter_72 rfl (lv_at hl 3 rfl) ?_
            refine va_get (ci := 4) (v := .ref (h 11)) (C := RX4) (T := TX4) (N := 6) hx hb hts hinX4 hown hK hP 0 rfl rfl 3 (by decide) (hts (.fieldLink RX4 31 "TypingTutor" "current" "LTypingTutor$Lesson;") (List.mem_of_getElem? (i := 1) rfl)) (fun _ h9 => h9) rfl dX4_tryLetter_73 ?_
            refine zci (zrV (As := []) (rest := []) ⟨hx, hb, hml, hown, hts⟩ (zV 11 hP hD hK hE hB hS rfl rfl) (c_X2_triedTotal  ) (cwV 0 hts gX4_tryLetter_X2_triedTotal rfl rfl rfl hdv_X2_triedTotal ⟨Nat.le_of_ble_eq_true rfl, Nat.le_of_ble_eq_true rfl⟩) rfl rfl hl.1 rfl (lv_room (Nat.le_of_ble_eq_true rfl)) dX4_tryLetter_76 ⟨Nat.le_of_ble_eq_true rfl, Nat.le_of_ble_eq_true rfl⟩) hS (fun H locs hP hD hS => ?_)
            have hP : va_P D vwCl (zWT cI cJ h (n, L) ((zkt kt x), (zkm false km x), (zkl false kl x time)) ((zkt pt (26 * o9 + x)), (zkm false pm (26 * o9 + x)), (zkl false pl (26 * o9 + x) time)) (nu, le, ow, fo, run, wc, lc, (tr + 1), cl, tm, 0) (yl, yc, yt, co, pa, su, sc) mc ++ R) _ := hP
            have hD : va_D (zAb B) (zWT cI cJ h (n, L) ((zkt kt x), (zkm false km x), (zkl false kl x time)) ((zkt pt (26 * o9 + x)), (zkm false pm (26 * o9 + x)), (zkl false pl (26 * o9 + x) time)) (nu, le, ow, fo, run, wc, lc, (tr + 1), cl, tm, 0) (yl, yc, yt, co, pa, su, sc) mc ++ R) := hD
            refine lv_aload_n hx hb dX4_tryLetter_79 rfl (lv_at hl 3 rfl) ?_
            refine va_get (ci := 4) (v := .ref (h 11)) (C := RX4) (T := TX4) (N := 6) hx hb hts hinX4 hown hK hP 0 rfl rfl 3 (by decide) (hts (.fieldLink RX4 31 "TypingTutor" "current" "LTypingTutor$Lesson;") (List.mem_of_getElem? (i := 1) rfl)) (fun _ h9 => h9) rfl dX4_tryLetter_80 ?_
            refine zci (zrV (As := []) (rest := [.int (nI (tr + 1))]) ⟨hx, hb, hml, hown, hts⟩ (zV 11 hP hD hK hE hB hS rfl rfl) (c_X2_letterTotal  ) (cwV 0 hts gX4_tryLetter_X2_letterTotal rfl rfl rfl hdv_X2_letterTotal ⟨Nat.le_of_ble_eq_true rfl, Nat.le_of_ble_eq_true rfl⟩) rfl rfl hl.1 rfl (lv_room (Nat.le_of_ble_eq_true rfl)) dX4_tryLetter_83 ⟨Nat.le_of_ble_eq_true rfl, Nat.le_of_ble_eq_true rfl⟩) hS (fun H locs hP hD hS => ?_)
            have hP : va_P D vwCl (zWT cI cJ h (n, L) ((zkt kt x), (zkm false km x), (zkl false kl x time)) ((zkt pt (26 * o9 + x)), (zkm false pm (26 * o9 + x)), (zkl false pl (26 * o9 + x) time)) (nu, le, ow, fo, run, wc, lc, (tr + 1), cl, tm, 0) (yl, yc, yt, co, pa, su, sc) mc ++ R) _ := hP
            have hD : va_D (zAb B) (zWT cI cJ h (n, L) ((zkt kt x), (zkm false km x), (zkl false kl x time)) ((zkt pt (26 * o9 + x)), (zkm false pm (26 * o9 + x)), (zkl false pl (26 * o9 + x) time)) (nu, le, ow, fo, run, wc, lc, (tr + 1), cl, tm, 0) (yl, yc, yt, co, pa, su, sc) mc ++ R) := hD
            refine lv_icmp_lt (tgt := 124) hx hb dX4_tryLetter_86 (by decide) (fun c_24 => ?_) (fun c_24 => ?_)
            · skip
              have c_24 : (tr + 1) < lc := (nI_ltI (a := (tr + 1)) (b := lc) (by omega) (by omega)).mp c_24
              exact W.vret hx hb hr (fun t ht hW => ⟨⟨(), rfl, trivial, by rw [ht]; exact hP, hD⟩, hS.F ht⟩) hS.2.2 dX4_tryLetter_124
            · skip
              have c_24 : ¬ (tr + 1) < lc := fun hh => c_24 ((nI_ltI (a := (tr + 1)) (b := lc) (by omega) (by omega)).mpr hh)
              omega
        · skip
          have c_22 : (ms9 + 1) = 0 := (nI_eq (a := (ms9 + 1)) (b := 0) (by omega) (by omega)).mp c_22
          omega

set_option maxHeartbeats 1000000 in
set_option maxRecDepth 100000 in
theorem c_X4_strike_r {l : Launch} {B kr kp : Nat} {D : va_G} {cI cJ cZ : ClassId} {h : Nat → Nat} {R : va_W} {n : Nat} {L : Nat → Int64} {kt : Nat → Int32} {km : Nat → Int32} {kl : Nat → Int32} {pt : Nat → Int32} {pm : Nat → Int32} {pl : Nat → Int32} {nu : Nat → Int32} {le : Nat → Int32} {ow : Nat → Int32} {fo : Nat → Int32} {run : Bool} {wc : Nat} {lc : Nat} {tr : Nat} {cl : Nat} {tm : Nat} {ms : Nat} {yl : Nat → Int32} {yc : Nat → Int32} {yt : Nat → Int32} {co : Nat} {pa : Int32} {su : Nat} {sc : Nat} {mc : Nat → Int32} {key : Int32} {time : Nat} {x : Nat} {o : Option Nat} {fin : Bool}  (h1 : ¬ key < 0 ∧ ¬ 26 ≤ key) (ht1 : 1 ≤ time) (ht2 : time ≤ 5000) (hrun : run = true) (hx9 : le tr = nI x) (hx26 : x < 26) (ho : zis le ow lc tr (nI tr - 1) = zoI o) (hoy : ∀ y, o = some y → y < 26) (hf : zsel fin (tr + 1 = lc) (tr + 1 < lc)) (htr : tr < lc) (hlc : lc ≤ 48) (hcl : cl ≤ tr) (hco : co < 256) (h2ms : ms ≤ 2) (hk0 : zkd key le ow lc tr = 0) : Met l yX4_strike wsX4_strike ({ frames := 4, cells := 0, slots := 0, locals := 94 }) (zPc B kr kp D (zTy cI cJ cZ) (zWT cI cJ h (n, L) (kt, km, kl) (pt, pm, pl) (nu, le, ow, fo, run, wc, lc, tr, cl, tm, ms) (yl, yc, yt, co, pa, su, sc) mc ++ R) [.ref (h 0), .int key, .int (nI time)]) (zQi B D (zWT cI cJ h (n, L) ((zkt kt x), (zkm (zc0 ms) km x), (zkl (zc0 ms) kl x (nI time))) ((zou o x pt (zkt pt)), (zou o x pm (zkm (zc0 ms) pm)), (zou o x pl (fun p => zkl (zc0 ms) pl p (nI time)))) (nu, le, ow, fo, (zsel fin false run), wc, lc, (tr + 1), (zsel (zc0 ms) (cl + 1) cl), (tm + time), 0) ((zsel fin (upd yl co (nI lc)) yl), (zsel fin (upd yc co (nI (zsel (zc0 ms) (cl + 1) cl))) yc), (zsel fin (upd yt co (nI (tm + time))) yt), (zsel fin (co + 1) co), (zsel fin (zpc pa lc (zsel (zc0 ms) (cl + 1) cl)) pa), (zsel fin (su + lc) su), (zsel fin (sc + (zsel (zc0 ms) (cl + 1) cl)) sc)) mc ++ R) 0) 0 0 (zAb B) := by
  refine Met.ofW (cc := cX4_strike) (maxL := 4) (ret := (some .int)) (by decide) rfl ?_
  intro p e s m args below meth c s₁ B0 hml hv
  obtain ⟨rfl, hP, hD, hK, hE, hB⟩ := hv
  have hx := B0.exec
  have hb := B0.bytes
  have hr := B0.returns
  have hts := atoms_spec (ws := wsX4_strike) B0.pre
  have hown : s.vm.findClass RX4 = some m.cls := findClass_of_methodNamed B0.named
  have hlocks := B0.notSynchronized
  have hA : ∀ q : Nat, s.heap.size ≤ q → zAb B q := fun q hq => Nat.le_trans hB hq
  have hS : va_S (zAb B) s.heap s.heap [] := va_S.rf
  have hgr : s.heap.size ≤ s.heap.size := Nat.le_refl _
  have hl := lv_entry ([.ref (h 0), .int key, .int (nI time)]) (n := 4) (Nat.le_of_ble_eq_true rfl)
  rw [lg_entry_eq]
  generalize (lg_sl ([.ref (h 0), .int key, .int (nI time)]) ++ List.replicate (4 - (lg_sl ([.ref (h 0), .int key, .int (nI time)])).length) Slot.unset).toArray = ls at hl ⊢
  have hl : lv_has ls 4 [(0, .ref (h 0)), (1, .int key), (2, .int (nI time))] := hl
  have hinX4 : ∀ w ∈ wsX40, w ∈ wsX4_strike := fun _ h => List.mem_cons_of_mem _ (List.mem_append_left _ (List.mem_append_left _ (List.mem_append_left _ (List.mem_append_left _ (List.mem_append_left _ (List.mem_append_left _ (List.mem_append_right _ h)))))))
  have hP : va_P D vwCl (zWT cI cJ h (n, L) (kt, km, kl) (pt, pm, pl) (nu, le, ow, fo, run, wc, lc, tr, cl, tm, ms) (yl, yc, yt, co, pa, su, sc) mc ++ R) s.heap := hP
  have hD : va_D (zAb B) (zWT cI cJ h (n, L) (kt, km, kl) (pt, pm, pl) (nu, le, ow, fo, run, wc, lc, tr, cl, tm, ms) (yl, yc, yt, co, pa, su, sc) mc ++ R) := hD
  refine lv_iload_n hx hb dX4_strike_0 rfl (lv_at hl 1 rfl) ?_
  refine zci (zrS (As := [.int key]) (rest := []) ⟨hx, hb, hml, hown, hts⟩ (zS hP hD hK hE hB hS) (c_X4_isKey  ) (va_cwS 1 hts gX4_strike_X4_isKey rfl rfl rfl hds_X4_isKey ⟨Nat.le_of_ble_eq_true rfl, Nat.le_of_ble_eq_true rfl⟩) rfl rfl hl.1 rfl (lv_room (Nat.le_of_ble_eq_true rfl)) dX4_strike_1 ⟨Nat.le_of_ble_eq_true rfl, Nat.le_of_ble_eq_true rfl⟩) hS (fun H locs hP hD hS => ?_)
  have hP : va_P D vwCl (zWT cI cJ h (n, L) (kt, km, kl) (pt, pm, pl) (nu, le, ow, fo, run, wc, lc, tr, cl, tm, ms) (yl, yc, yt, co, pa, su, sc) mc ++ R) _ := hP
  have hD : va_D (zAb B) (zWT cI cJ h (n, L) (kt, km, kl) (pt, pm, pl) (nu, le, ow, fo, run, wc, lc, tr, cl, tm, ms) (yl, yc, yt, co, pa, su, sc) mc ++ R) := hD
  refine lv_if_ne (tgt := 17) hx hb dX4_strike_4 (by decide) (fun c_1 => ?_) (fun c_1 => ?_)
  · skip
    have c_1 := zq_n c_1
    refine lv_iload_n hx hb dX4_strike_17 rfl (lv_at hl 2 rfl) ?_
    refine lv_iconst (v := 1) hx hb dX4_strike_18 (by decide) ?_
    refine lv_icmp_lt (tgt := 29) hx hb dX4_strike_19 (by decide) (fun c_2 => ?_) (fun c_2 => ?_)
    · skip
      have c_2 : time < 1 := (nI_ltI (a := time) (b := 1) (by omega) (by omega)).mp c_2
      omega
    · skip
      have c_2 : ¬ time < 1 := fun hh => c_2 ((nI_ltI (a := time) (b := 1) (by omega) (by omega)).mpr hh)
      refine lv_iload_n hx hb dX4_strike_22 rfl (lv_at hl 2 rfl) ?_
      refine lv_sipush (v := 5000) hx hb dX4_strike_23 (by decide) ?_
      refine lv_icmp_le (tgt := 39) hx hb dX4_strike_26 (by decide) (fun c_3 => ?_) (fun c_3 => ?_)
      · skip
        have c_3 : time ≤ 5000 := (nI_leI (a := time) (b := 5000) (by omega) (by omega)).mp c_3
        refine lv_aload_n hx hb dX4_strike_39 rfl (lv_at hl 0 rfl) ?_
        refine va_get (ci := 4) (v := .ref (h 11)) (C := RX4) (T := TX4) (N := 6) hx hb hts hinX4 hown hK hP 0 rfl rfl 3 (by decide) (hts (.fieldLink RX4 31 "TypingTutor" "current" "LTypingTutor$Lesson;") (List.mem_of_getElem? (i := 7) rfl)) (fun _ h9 => h9) rfl dX4_strike_40 ?_
        refine zci (zrV (As := []) (rest := []) ⟨hx, hb, hml, hown, hts⟩ (zV 11 hP hD hK hE hB hS rfl rfl) (c_X2_isRunning  ) (cwV 0 hts gX4_strike_X2_isRunning rfl rfl rfl hdv_X2_isRunning ⟨Nat.le_of_ble_eq_true rfl, Nat.le_of_ble_eq_true rfl⟩) rfl rfl hl.1 rfl (lv_room (Nat.le_of_ble_eq_true rfl)) dX4_strike_43 ⟨Nat.le_of_ble_eq_true rfl, Nat.le_of_ble_eq_true rfl⟩) hS (fun H locs hP hD hS => ?_)
        have hP : va_P D vwCl (zWT cI cJ h (n, L) (kt, km, kl) (pt, pm, pl) (nu, le, ow, fo, run, wc, lc, tr, cl, tm, ms) (yl, yc, yt, co, pa, su, sc) mc ++ R) _ := hP
        have hD : va_D (zAb B) (zWT cI cJ h (n, L) (kt, km, kl) (pt, pm, pl) (nu, le, ow, fo, run, wc, lc, tr, cl, tm, ms) (yl, yc, yt, co, pa, su, sc) mc ++ R) := hD
        refine lv_if_ne (tgt := 59) hx hb dX4_strike_46 (by decide) (fun c_4 => ?_) (fun c_4 => ?_)
        · skip
          have c_4 : run = true := zb_n c_4
          refine lv_aload_n hx hb dX4_strike_59 rfl (lv_at hl 0 rfl) ?_
          refine lv_iload_n hx hb dX4_strike_60 rfl (lv_at hl 1 rfl) ?_
          refine zci (zrV (As := [.int key]) (rest := []) ⟨hx, hb, hml, hown, hts⟩ (zV 0 hP hD hK hE hB hS rfl rfl) (c_X4_kindOfStroke  (by omega) (by omega)) (cwV 1 hts gX4_strike_X4_kindOfStroke rfl rfl rfl hdv_X4_kindOfStroke ⟨Nat.le_of_ble_eq_true rfl, Nat.le_of_ble_eq_true rfl⟩) rfl rfl hl.1 rfl (lv_room (Nat.le_of_ble_eq_true rfl)) dX4_strike_61 ⟨Nat.le_of_ble_eq_true rfl, Nat.le_of_ble_eq_true rfl⟩) hS (fun H locs hP hD hS => ?_)
          have hP : va_P D vwCl (zWT cI cJ h (n, L) (kt, km, kl) (pt, pm, pl) (nu, le, ow, fo, run, wc, lc, tr, cl, tm, ms) (yl, yc, yt, co, pa, su, sc) mc ++ R) _ := hP
          have hD : va_D (zAb B) (zWT cI cJ h (n, L) (kt, km, kl) (pt, pm, pl) (nu, le, ow, fo, run, wc, lc, tr, cl, tm, ms) (yl, yc, yt, co, pa, su, sc) mc ++ R) := hD
          rw [show (zkd key le ow lc tr) = 0 from hk0]
          refine lv_istore_n (lv' := [(3, .int 0), (0, .ref (h 0)), (1, .int key), (2, .int (nI time))]) hx hb dX4_strike_64 rfl hl (by decide) rfl (fun ls hl => ?_)
          refine lv_aload_n hx hb dX4_strike_65 rfl (lv_at hl 1 rfl) ?_
          refine va_get (ci := 4) (v := .ref (h 11)) (C := RX4) (T := TX4) (N := 6) hx hb hts hinX4 hown hK hP 0 rfl rfl 3 (by decide) (hts (.fieldLink RX4 31 "TypingTutor" "current" "LTypingTutor$Lesson;") (List.mem_of_getElem? (i := 7) rfl)) (fun _ h9 => h9) rfl dX4_strike_66 ?_
          refine lv_iload_n hx hb dX4_strike_69 rfl (lv_at hl 0 rfl) ?_
          refine lv_iload_n hx hb dX4_strike_70 rfl (lv_at hl 3 rfl) ?_
          refine zcv (zrV (As := [.int 0, .int (nI time)]) (rest := []) ⟨hx, hb, hml, hown, hts⟩ (zV 11 hP hD hK hE hB hS rfl rfl) (c_X2_noteStroke_0 (time := time) ) (cwV 2 hts gX4_strike_X2_noteStroke rfl rfl rfl hdv_X2_noteStroke ⟨Nat.le_of_ble_eq_true rfl, Nat.le_of_ble_eq_true rfl⟩) rfl rfl hl.1 rfl (lv_room (Nat.le_of_ble_eq_true rfl)) dX4_strike_71 ⟨Nat.le_of_ble_eq_true rfl, Nat.le_of_ble_eq_true rfl⟩) hS (fun H locs hP hD hS => ?_)
          have hP : va_P D vwCl (zWT cI cJ h (n, L) (kt, km, kl) (pt, pm, pl) (nu, le, ow, fo, run, wc, lc, tr, cl, (tm + time), ms) (yl, yc, yt, co, pa, su, sc) mc ++ R) _ := hP
          have hD : va_D (zAb B) (zWT cI cJ h (n, L) (kt, km, kl) (pt, pm, pl) (nu, le, ow, fo, run, wc, lc, tr, cl, (tm + time), ms) (yl, yc, yt, co, pa, su, sc) mc ++ R) := hD
          refine lv_iload_n hx hb dX4_strike_74 rfl (lv_at hl 0 rfl) ?_
          refine lv_if_eq (tgt := 96) hx hb dX4_strike_75 (by decide) (fun c_5 => ?_) (fun c_5 => ?_)
          · skip
            refine lv_iload_n hx hb dX4_strike_96 rfl (lv_at hl 0 rfl) ?_
            refine lv_if_eq (tgt := 111) hx hb dX4_strike_97 (by decide) (fun c_6 => ?_) (fun c_6 => ?_)
            · skip
              refine lv_aload_n hx hb dX4_strike_111 rfl (lv_at hl 1 rfl) ?_
              refine lv_iload_n hx hb dX4_strike_112 rfl (lv_at hl 3 rfl) ?_
              refine zcv (zrV (As := [.int (nI time)]) (rest := []) ⟨hx, hb, hml, hown, hts⟩ (zV 0 hP hD hK hE hB hS rfl rfl) (c_X4_tryLetter (x := x) (o := o) (fin := fin) (hx9) (hx26) (ho) (hoy) (hf) (htr) (hlc) (hcl) (hco) (by omega)) (cwV 1 hts gX4_strike_X4_tryLetter rfl rfl rfl hdv_X4_tryLetter ⟨Nat.le_of_ble_eq_true rfl, Nat.le_of_ble_eq_true rfl⟩) rfl rfl hl.1 rfl (lv_room (Nat.le_of_ble_eq_true rfl)) dX4_strike_113 ⟨Nat.le_of_ble_eq_true rfl, Nat.le_of_ble_eq_true rfl⟩) hS (fun H locs hP hD hS => ?_)
              have hP : va_P D vwCl (zWT cI cJ h (n, L) ((zkt kt x), (zkm (zc0 ms) km x), (zkl (zc0 ms) kl x (nI time))) ((zou o x pt (zkt pt)), (zou o x pm (zkm (zc0 ms) pm)), (zou o x pl (fun p => zkl (zc0 ms) pl p (nI time)))) (nu, le, ow, fo, (zsel fin false run), wc, lc, (tr + 1), (zsel (zc0 ms) (cl + 1) cl), (tm + time), 0) ((zsel fin (upd yl co (nI lc)) yl), (zsel fin (upd yc co (nI (zsel (zc0 ms) (cl + 1) cl))) yc), (zsel fin (upd yt co (nI (tm + time))) yt), (zsel fin (co + 1) co), (zsel fin (zpc pa lc (zsel (zc0 ms) (cl + 1) cl)) pa), (zsel fin (su + lc) su), (zsel fin (sc + (zsel (zc0 ms) (cl + 1) cl)) sc)) mc ++ R) _ := hP
              have hD : va_D (zAb B) (zWT cI cJ h (n, L) ((zkt kt x), (zkm (zc0 ms) km x), (zkl (zc0 ms) kl x (nI time))) ((zou o x pt (zkt pt)), (zou o x pm (zkm (zc0 ms) pm)), (zou o x pl (fun p => zkl (zc0 ms) pl p (nI time)))) (nu, le, ow, fo, (zsel fin false run), wc, lc, (tr + 1), (zsel (zc0 ms) (cl + 1) cl), (tm + time), 0) ((zsel fin (upd yl co (nI lc)) yl), (zsel fin (upd yc co (nI (zsel (zc0 ms) (cl + 1) cl))) yc), (zsel fin (upd yt co (nI (tm + time))) yt), (zsel fin (co + 1) co), (zsel fin (zpc pa lc (zsel (zc0 ms) (cl + 1) cl)) pa), (zsel fin (su + lc) su), (zsel fin (sc + (zsel (zc0 ms) (cl + 1) cl)) sc)) mc ++ R) := hD
              refine lv_iload_n hx hb dX4_strike_116 rfl (lv_at hl 0 rfl) ?_
              exact W.iret (v := 0) hx hb hr (fun t ht hW => ⟨⟨_, (), rfl, rfl, by rw [ht]; exact hP, hD⟩, hS.F ht⟩) hS.2.2 dX4_strike_117
            · skip
              exfalso; first | omega | (revert c_6; decide) | (exact absurd rfl c_6) | simp_all
          · skip
            exfalso; first | omega | (revert c_5; decide) | (exact absurd rfl c_5) | simp_all
        · skip
          have c_4 : run = false := zb_0 c_4
          exact absurd (c_4.symm.trans hrun) (by decide)
      · skip
        have c_3 : ¬ time ≤ 5000 := fun hh => c_3 ((nI_leI (a := time) (b := 5000) (by omega) (by omega)).mpr hh)
        omega
  · skip
    have c_1 := zq_0 c_1
    exact absurd h1 c_1

set_option maxHeartbeats 1000000 in
set_option maxRecDepth 100000 in
theorem c_X4_strike_w1 {l : Launch} {B kr kp : Nat} {D : va_G} {cI cJ cZ : ClassId} {h : Nat → Nat} {R : va_W} {n : Nat} {L : Nat → Int64} {kt : Nat → Int32} {km : Nat → Int32} {kl : Nat → Int32} {pt : Nat → Int32} {pm : Nat → Int32} {pl : Nat → Int32} {nu : Nat → Int32} {le : Nat → Int32} {ow : Nat → Int32} {fo : Nat → Int32} {run : Bool} {wc : Nat} {lc : Nat} {tr : Nat} {cl : Nat} {tm : Nat} {ms : Nat} {yl : Nat → Int32} {yc : Nat → Int32} {yt : Nat → Int32} {co : Nat} {pa : Int32} {su : Nat} {sc : Nat} {mc : Nat → Int32} {key : Int32} {time : Nat} {kk : Nat}  (h1 : ¬ key < 0 ∧ ¬ 26 ≤ key) (ht1 : 1 ≤ time) (ht2 : time ≤ 5000) (hrun : run = true) (htr : tr < lc) (hlc : lc ≤ 48) (hms : ms = 0) (hkk : zkd key le ow lc tr = nI kk) (hk1 : 1 ≤ kk) (hk4 : kk ≤ 4) : Met l yX4_strike wsX4_strike ({ frames := 4, cells := 0, slots := 0, locals := 84 }) (zPc B kr kp D (zTy cI cJ cZ) (zWT cI cJ h (n, L) (kt, km, kl) (pt, pm, pl) (nu, le, ow, fo, run, wc, lc, tr, cl, tm, ms) (yl, yc, yt, co, pa, su, sc) mc ++ R) [.ref (h 0), .int key, .int (nI time)]) (zQi B D (zWT cI cJ h (n, L) (kt, km, kl) (pt, pm, pl) (nu, le, ow, fo, run, wc, lc, tr, cl, (tm + time), (ms + 1)) (yl, yc, yt, co, pa, su, sc) (upd mc kk (mc kk + 1)) ++ R) (nI kk)) 0 0 (zAb B) := by
  refine Met.ofW (cc := cX4_strike) (maxL := 4) (ret := (some .int)) (by decide) rfl ?_
  intro p e s m args below meth c s₁ B0 hml hv
  obtain ⟨rfl, hP, hD, hK, hE, hB⟩ := hv
  have hx := B0.exec
  have hb := B0.bytes
  have hr := B0.returns
  have hts := atoms_spec (ws := wsX4_strike) B0.pre
  have hown : s.vm.findClass RX4 = some m.cls := findClass_of_methodNamed B0.named
  have hlocks := B0.notSynchronized
  have hA : ∀ q : Nat, s.heap.size ≤ q → zAb B q := fun q hq => Nat.le_trans hB hq
  have hS : va_S (zAb B) s.heap s.heap [] := va_S.rf
  have hgr : s.heap.size ≤ s.heap.size := Nat.le_refl _
  have hl := lv_entry ([.ref (h 0), .int key, .int (nI time)]) (n := 4) (Nat.le_of_ble_eq_true rfl)
  rw [lg_entry_eq]
  generalize (lg_sl ([.ref (h 0), .int key, .int (nI time)]) ++ List.replicate (4 - (lg_sl ([.ref (h 0), .int key, .int (nI time)])).length) Slot.unset).toArray = ls at hl ⊢
  have hl : lv_has ls 4 [(0, .ref (h 0)), (1, .int key), (2, .int (nI time))] := hl
  have hinX4 : ∀ w ∈ wsX40, w ∈ wsX4_strike := fun _ h => List.mem_cons_of_mem _ (List.mem_append_left _ (List.mem_append_left _ (List.mem_append_left _ (List.mem_append_left _ (List.mem_append_left _ (List.mem_append_left _ (List.mem_append_right _ h)))))))
  have hP : va_P D vwCl (zWT cI cJ h (n, L) (kt, km, kl) (pt, pm, pl) (nu, le, ow, fo, run, wc, lc, tr, cl, tm, ms) (yl, yc, yt, co, pa, su, sc) mc ++ R) s.heap := hP
  have hD : va_D (zAb B) (zWT cI cJ h (n, L) (kt, km, kl) (pt, pm, pl) (nu, le, ow, fo, run, wc, lc, tr, cl, tm, ms) (yl, yc, yt, co, pa, su, sc) mc ++ R) := hD
  refine lv_iload_n hx hb dX4_strike_0 rfl (lv_at hl 1 rfl) ?_
  refine zci (zrS (As := [.int key]) (rest := []) ⟨hx, hb, hml, hown, hts⟩ (zS hP hD hK hE hB hS) (c_X4_isKey  ) (va_cwS 1 hts gX4_strike_X4_isKey rfl rfl rfl hds_X4_isKey ⟨Nat.le_of_ble_eq_true rfl, Nat.le_of_ble_eq_true rfl⟩) rfl rfl hl.1 rfl (lv_room (Nat.le_of_ble_eq_true rfl)) dX4_strike_1 ⟨Nat.le_of_ble_eq_true rfl, Nat.le_of_ble_eq_true rfl⟩) hS (fun H locs hP hD hS => ?_)
  have hP : va_P D vwCl (zWT cI cJ h (n, L) (kt, km, kl) (pt, pm, pl) (nu, le, ow, fo, run, wc, lc, tr, cl, tm, ms) (yl, yc, yt, co, pa, su, sc) mc ++ R) _ := hP
  have hD : va_D (zAb B) (zWT cI cJ h (n, L) (kt, km, kl) (pt, pm, pl) (nu, le, ow, fo, run, wc, lc, tr, cl, tm, ms) (yl, yc, yt, co, pa, su, sc) mc ++ R) := hD
  refine lv_if_ne (tgt := 17) hx hb dX4_strike_4 (by decide) (fun c_1 => ?_) (fun c_1 => ?_)
  · skip
    have c_1 := zq_n c_1
    refine lv_iload_n hx hb dX4_strike_17 rfl (lv_at hl 2 rfl) ?_
    refine lv_iconst (v := 1) hx hb dX4_strike_18 (by decide) ?_
    refine lv_icmp_lt (tgt := 29) hx hb dX4_strike_19 (by decide) (fun c_2 => ?_) (fun c_2 => ?_)
    · skip
      have c_2 : time < 1 := (nI_ltI (a := time) (b := 1) (by omega) (by omega)).mp c_2
      omega
    · skip
      have c_2 : ¬ time < 1 := fun hh => c_2 ((nI_ltI (a := time) (b := 1) (by omega) (by omega)).mpr hh)
      refine lv_iload_n hx hb dX4_strike_22 rfl (lv_at hl 2 rfl) ?_
      refine lv_sipush (v := 5000) hx hb dX4_strike_23 (by decide) ?_
      refine lv_icmp_le (tgt := 39) hx hb dX4_strike_26 (by decide) (fun c_3 => ?_) (fun c_3 => ?_)
      · skip
        have c_3 : time ≤ 5000 := (nI_leI (a := time) (b := 5000) (by omega) (by omega)).mp c_3
        refine lv_aload_n hx hb dX4_strike_39 rfl (lv_at hl 0 rfl) ?_
        refine va_get (ci := 4) (v := .ref (h 11)) (C := RX4) (T := TX4) (N := 6) hx hb hts hinX4 hown hK hP 0 rfl rfl 3 (by decide) (hts (.fieldLink RX4 31 "TypingTutor" "current" "LTypingTutor$Lesson;") (List.mem_of_getElem? (i := 7) rfl)) (fun _ h9 => h9) rfl dX4_strike_40 ?_
        refine zci (zrV (As := []) (rest := []) ⟨hx, hb, hml, hown, hts⟩ (zV 11 hP hD hK hE hB hS rfl rfl) (c_X2_isRunning  ) (cwV 0 hts gX4_strike_X2_isRunning rfl rfl rfl hdv_X2_isRunning ⟨Nat.le_of_ble_eq_true rfl, Nat.le_of_ble_eq_true rfl⟩) rfl rfl hl.1 rfl (lv_room (Nat.le_of_ble_eq_true rfl)) dX4_strike_43 ⟨Nat.le_of_ble_eq_true rfl, Nat.le_of_ble_eq_true rfl⟩) hS (fun H locs hP hD hS => ?_)
        have hP : va_P D vwCl (zWT cI cJ h (n, L) (kt, km, kl) (pt, pm, pl) (nu, le, ow, fo, run, wc, lc, tr, cl, tm, ms) (yl, yc, yt, co, pa, su, sc) mc ++ R) _ := hP
        have hD : va_D (zAb B) (zWT cI cJ h (n, L) (kt, km, kl) (pt, pm, pl) (nu, le, ow, fo, run, wc, lc, tr, cl, tm, ms) (yl, yc, yt, co, pa, su, sc) mc ++ R) := hD
        refine lv_if_ne (tgt := 59) hx hb dX4_strike_46 (by decide) (fun c_4 => ?_) (fun c_4 => ?_)
        · skip
          have c_4 : run = true := zb_n c_4
          refine lv_aload_n hx hb dX4_strike_59 rfl (lv_at hl 0 rfl) ?_
          refine lv_iload_n hx hb dX4_strike_60 rfl (lv_at hl 1 rfl) ?_
          refine zci (zrV (As := [.int key]) (rest := []) ⟨hx, hb, hml, hown, hts⟩ (zV 0 hP hD hK hE hB hS rfl rfl) (c_X4_kindOfStroke  (by omega) (by omega)) (cwV 1 hts gX4_strike_X4_kindOfStroke rfl rfl rfl hdv_X4_kindOfStroke ⟨Nat.le_of_ble_eq_true rfl, Nat.le_of_ble_eq_true rfl⟩) rfl rfl hl.1 rfl (lv_room (Nat.le_of_ble_eq_true rfl)) dX4_strike_61 ⟨Nat.le_of_ble_eq_true rfl, Nat.le_of_ble_eq_true rfl⟩) hS (fun H locs hP hD hS => ?_)
          have hP : va_P D vwCl (zWT cI cJ h (n, L) (kt, km, kl) (pt, pm, pl) (nu, le, ow, fo, run, wc, lc, tr, cl, tm, ms) (yl, yc, yt, co, pa, su, sc) mc ++ R) _ := hP
          have hD : va_D (zAb B) (zWT cI cJ h (n, L) (kt, km, kl) (pt, pm, pl) (nu, le, ow, fo, run, wc, lc, tr, cl, tm, ms) (yl, yc, yt, co, pa, su, sc) mc ++ R) := hD
          rw [show (zkd key le ow lc tr) = (nI kk) from hkk]
          refine lv_istore_n (lv' := [(3, .int (nI kk)), (0, .ref (h 0)), (1, .int key), (2, .int (nI time))]) hx hb dX4_strike_64 rfl hl (by decide) rfl (fun ls hl => ?_)
          refine lv_aload_n hx hb dX4_strike_65 rfl (lv_at hl 1 rfl) ?_
          refine va_get (ci := 4) (v := .ref (h 11)) (C := RX4) (T := TX4) (N := 6) hx hb hts hinX4 hown hK hP 0 rfl rfl 3 (by decide) (hts (.fieldLink RX4 31 "TypingTutor" "current" "LTypingTutor$Lesson;") (List.mem_of_getElem? (i := 7) rfl)) (fun _ h9 => h9) rfl dX4_strike_66 ?_
          refine lv_iload_n hx hb dX4_strike_69 rfl (lv_at hl 0 rfl) ?_
          refine lv_iload_n hx hb dX4_strike_70 rfl (lv_at hl 3 rfl) ?_
          refine zcv (zrV (As := [.int (nI kk), .int (nI time)]) (rest := []) ⟨hx, hb, hml, hown, hts⟩ (zV 11 hP hD hK hE hB hS rfl rfl) (c_X2_noteStroke_x (time := time) (nI_ne0 (by omega) (by omega))) (cwV 2 hts gX4_strike_X2_noteStroke rfl rfl rfl hdv_X2_noteStroke ⟨Nat.le_of_ble_eq_true rfl, Nat.le_of_ble_eq_true rfl⟩) rfl rfl hl.1 rfl (lv_room (Nat.le_of_ble_eq_true rfl)) dX4_strike_71 ⟨Nat.le_of_ble_eq_true rfl, Nat.le_of_ble_eq_true rfl⟩) hS (fun H locs hP hD hS => ?_)
          have hP : va_P D vwCl (zWT cI cJ h (n, L) (kt, km, kl) (pt, pm, pl) (nu, le, ow, fo, run, wc, lc, tr, cl, (tm + time), (ms + 1)) (yl, yc, yt, co, pa, su, sc) mc ++ R) _ := hP
          have hD : va_D (zAb B) (zWT cI cJ h (n, L) (kt, km, kl) (pt, pm, pl) (nu, le, ow, fo, run, wc, lc, tr, cl, (tm + time), (ms + 1)) (yl, yc, yt, co, pa, su, sc) mc ++ R) := hD
          refine lv_iload_n hx hb dX4_strike_74 rfl (lv_at hl 0 rfl) ?_
          refine lv_if_eq (tgt := 96) hx hb dX4_strike_75 (by decide) (fun c_5 => ?_) (fun c_5 => ?_)
          · skip
            have c_5 : kk = 0 := (nI_eq (a := kk) (b := 0) (by omega) (by omega)).mp c_5
            exfalso; first | omega | (revert c_5; decide) | (exact absurd rfl c_5) | simp_all
          · skip
            have c_5 : ¬ kk = 0 := fun hh => c_5 ((nI_eq (a := kk) (b := 0) (by omega) (by omega)).mpr hh)
            refine lv_aload_n hx hb dX4_strike_78 rfl (lv_at hl 1 rfl) ?_
            refine va_get (ci := 4) (v := .ref (h 20)) (C := RX4) (T := TX4) (N := 6) hx hb hts hinX4 hown hK hP 0 rfl rfl 5 (by decide) (hts (.fieldLink RX4 42 "TypingTutor" "mistakeCounts" "[I") (List.mem_of_getElem? (i := 8) rfl)) (fun _ h9 => h9) rfl dX4_strike_79 ?_
            refine lv_iload_n hx hb dX4_strike_82 rfl (lv_at hl 0 rfl) ?_
            refine lv_aload_n hx hb dX4_strike_83 rfl (lv_at hl 1 rfl) ?_
            refine va_get (ci := 4) (v := .ref (h 20)) (C := RX4) (T := TX4) (N := 6) hx hb hts hinX4 hown hK hP 0 rfl rfl 5 (by decide) (hts (.fieldLink RX4 42 "TypingTutor" "mistakeCounts" "[I") (List.mem_of_getElem? (i := 8) rfl)) (fun _ h9 => h9) rfl dX4_strike_84 ?_
            refine lv_iload_n hx hb dX4_strike_87 rfl (lv_at hl 0 rfl) ?_
            refine zci (zrS (As := [.ref (h 20), .int (nI kk)]) (rest := [.int (nI kk), .ref (h 20)]) ⟨hx, hb, hml, hown, hts⟩ (zS hP hD hK hE hB hS) (c_X4_read (q0 := 20) rfl (by omega)) (va_cwS 2 hts gX4_strike_X4_read rfl rfl rfl hds_X4_read ⟨Nat.le_of_ble_eq_true rfl, Nat.le_of_ble_eq_true rfl⟩) rfl rfl hl.1 rfl (lv_room (Nat.le_of_ble_eq_true rfl)) dX4_strike_88 ⟨Nat.le_of_ble_eq_true rfl, Nat.le_of_ble_eq_true rfl⟩) hS (fun H locs hP hD hS => ?_)
            have hP : va_P D vwCl (zWT cI cJ h (n, L) (kt, km, kl) (pt, pm, pl) (nu, le, ow, fo, run, wc, lc, tr, cl, (tm + time), (ms + 1)) (yl, yc, yt, co, pa, su, sc) mc ++ R) _ := hP
            have hD : va_D (zAb B) (zWT cI cJ h (n, L) (kt, km, kl) (pt, pm, pl) (nu, le, ow, fo, run, wc, lc, tr, cl, (tm + time), (ms + 1)) (yl, yc, yt, co, pa, su, sc) mc ++ R) := hD
            rw [show (zrd 5 mc (nI kk)) = (mc kk) from (zrd_in (n := 5) (k := kk) (f := mc) (by omega) (by omega))]
            refine lv_iconst (v := 1) hx hb dX4_strike_91 (by decide) ?_
            refine lv_iadd hx hb dX4_strike_92 ?_
            refine zcv (zrS (As := [.ref (h 20), .int (nI kk), .int ((mc kk) + 1)]) (rest := []) ⟨hx, hb, hml, hown, hts⟩ (zS hP hD hK hE hB hS) (c_X4_write (q0 := 20) rfl (by omega)) (va_cwS 3 hts gX4_strike_X4_write rfl rfl rfl hds_X4_write ⟨Nat.le_of_ble_eq_true rfl, Nat.le_of_ble_eq_true rfl⟩) rfl rfl hl.1 rfl (lv_room (Nat.le_of_ble_eq_true rfl)) dX4_strike_93 ⟨Nat.le_of_ble_eq_true rfl, Nat.le_of_ble_eq_true rfl⟩) hS (fun H locs hP hD hS => ?_)
            have hP : va_P D vwCl (zWT cI cJ h (n, L) (kt, km, kl) (pt, pm, pl) (nu, le, ow, fo, run, wc, lc, tr, cl, (tm + time), (ms + 1)) (yl, yc, yt, co, pa, su, sc) (zwr 5 mc (nI kk) ((mc kk) + 1)) ++ R) _ := hP
            have hD : va_D (zAb B) (zWT cI cJ h (n, L) (kt, km, kl) (pt, pm, pl) (nu, le, ow, fo, run, wc, lc, tr, cl, (tm + time), (ms + 1)) (yl, yc, yt, co, pa, su, sc) (zwr 5 mc (nI kk) ((mc kk) + 1)) ++ R) := hD
            rw [show (zwr 5 mc (nI kk) ((mc kk) + 1)) = (upd mc kk ((mc kk) + 1)) from (zwr_in (n := 5) (k := kk) (f := mc) (v := ((mc kk) + 1)) (by omega) (by omega))] at hP hD
            have hP : va_P D vwCl (zWT cI cJ h (n, L) (kt, km, kl) (pt, pm, pl) (nu, le, ow, fo, run, wc, lc, tr, cl, (tm + time), (ms + 1)) (yl, yc, yt, co, pa, su, sc) (upd mc kk ((mc kk) + 1)) ++ R) _ := hP
            have hD : va_D (zAb B) (zWT cI cJ h (n, L) (kt, km, kl) (pt, pm, pl) (nu, le, ow, fo, run, wc, lc, tr, cl, (tm + time), (ms + 1)) (yl, yc, yt, co, pa, su, sc) (upd mc kk ((mc kk) + 1)) ++ R) := hD
            refine lv_iload_n hx hb dX4_strike_96 rfl (lv_at hl 0 rfl) ?_
            refine lv_if_eq (tgt := 111) hx hb dX4_strike_97 (by decide) (fun c_6 => ?_) (fun c_6 => ?_)
            · skip
              have c_6 : kk = 0 := (nI_eq (a := kk) (b := 0) (by omega) (by omega)).mp c_6
              exfalso; first | omega | (revert c_6; decide) | (exact absurd rfl c_6) | simp_all
            · skip
              have c_6 : ¬ kk = 0 := fun hh => c_6 ((nI_eq (a := kk) (b := 0) (by omega) (by omega)).mpr hh)
              refine lv_aload_n hx hb dX4_strike_100 rfl (lv_at hl 1 rfl) ?_
              refine va_get (ci := 4) (v := .ref (h 11)) (C := RX4) (T := TX4) (N := 6) hx hb hts hinX4 hown hK hP 0 rfl rfl 3 (by decide) (hts (.fieldLink RX4 31 "TypingTutor" "current" "LTypingTutor$Lesson;") (List.mem_of_getElem? (i := 7) rfl)) (fun _ h9 => h9) rfl dX4_strike_101 ?_
              refine zci (zrV (As := []) (rest := []) ⟨hx, hb, hml, hown, hts⟩ (zV 11 hP hD hK hE hB hS rfl rfl) (c_X2_mistakesHere  ) (cwV 0 hts gX4_strike_X2_mistakesHere rfl rfl rfl hdv_X2_mistakesHere ⟨Nat.le_of_ble_eq_true rfl, Nat.le_of_ble_eq_true rfl⟩) rfl rfl hl.1 rfl (lv_room (Nat.le_of_ble_eq_true rfl)) dX4_strike_104 ⟨Nat.le_of_ble_eq_true rfl, Nat.le_of_ble_eq_true rfl⟩) hS (fun H locs hP hD hS => ?_)
              have hP : va_P D vwCl (zWT cI cJ h (n, L) (kt, km, kl) (pt, pm, pl) (nu, le, ow, fo, run, wc, lc, tr, cl, (tm + time), (ms + 1)) (yl, yc, yt, co, pa, su, sc) (upd mc kk ((mc kk) + 1)) ++ R) _ := hP
              have hD : va_D (zAb B) (zWT cI cJ h (n, L) (kt, km, kl) (pt, pm, pl) (nu, le, ow, fo, run, wc, lc, tr, cl, (tm + time), (ms + 1)) (yl, yc, yt, co, pa, su, sc) (upd mc kk ((mc kk) + 1)) ++ R) := hD
              refine lv_iconst (v := 2) hx hb dX4_strike_107 (by decide) ?_
              refine lv_icmp_lt (tgt := 116) hx hb dX4_strike_108 (by decide) (fun c_7 => ?_) (fun c_7 => ?_)
              · skip
                have c_7 : (ms + 1) < 2 := (nI_ltI (a := (ms + 1)) (b := 2) (by omega) (by omega)).mp c_7
                refine lv_iload_n hx hb dX4_strike_116 rfl (lv_at hl 0 rfl) ?_
                exact W.iret (v := (nI kk)) hx hb hr (fun t ht hW => ⟨⟨_, (), rfl, rfl, by rw [ht]; exact hP, hD⟩, hS.F ht⟩) hS.2.2 dX4_strike_117
              · skip
                have c_7 : ¬ (ms + 1) < 2 := fun hh => c_7 ((nI_ltI (a := (ms + 1)) (b := 2) (by omega) (by omega)).mpr hh)
                exfalso; first | omega | (revert c_7; decide) | (exact absurd rfl c_7) | simp_all
        · skip
          have c_4 : run = false := zb_0 c_4
          exact absurd (c_4.symm.trans hrun) (by decide)
      · skip
        have c_3 : ¬ time ≤ 5000 := fun hh => c_3 ((nI_leI (a := time) (b := 5000) (by omega) (by omega)).mpr hh)
        omega
  · skip
    have c_1 := zq_0 c_1
    exact absurd h1 c_1

set_option maxHeartbeats 1000000 in
set_option maxRecDepth 100000 in
theorem c_X4_strike_w2 {l : Launch} {B kr kp : Nat} {D : va_G} {cI cJ cZ : ClassId} {h : Nat → Nat} {R : va_W} {n : Nat} {L : Nat → Int64} {kt : Nat → Int32} {km : Nat → Int32} {kl : Nat → Int32} {pt : Nat → Int32} {pm : Nat → Int32} {pl : Nat → Int32} {nu : Nat → Int32} {le : Nat → Int32} {ow : Nat → Int32} {fo : Nat → Int32} {run : Bool} {wc : Nat} {lc : Nat} {tr : Nat} {cl : Nat} {tm : Nat} {ms : Nat} {yl : Nat → Int32} {yc : Nat → Int32} {yt : Nat → Int32} {co : Nat} {pa : Int32} {su : Nat} {sc : Nat} {mc : Nat → Int32} {key : Int32} {time : Nat} {x : Nat} {o : Option Nat} {fin : Bool} {kk : Nat}  (h1 : ¬ key < 0 ∧ ¬ 26 ≤ key) (ht1 : 1 ≤ time) (ht2 : time ≤ 5000) (hrun : run = true) (hx9 : le tr = nI x) (hx26 : x < 26) (ho : zis le ow lc tr (nI tr - 1) = zoI o) (hoy : ∀ y, o = some y → y < 26) (hf : zsel fin (tr + 1 = lc) (tr + 1 < lc)) (htr : tr < lc) (hlc : lc ≤ 48) (hcl : cl ≤ tr) (hco : co < 256) (h2ms : ms ≤ 2) (hms : ms = 1) (hkk : zkd key le ow lc tr = nI kk) (hk1 : 1 ≤ kk) (hk4 : kk ≤ 4) : Met l yX4_strike wsX4_strike ({ frames := 4, cells := 0, slots := 0, locals := 94 }) (zPc B kr kp D (zTy cI cJ cZ) (zWT cI cJ h (n, L) (kt, km, kl) (pt, pm, pl) (nu, le, ow, fo, run, wc, lc, tr, cl, tm, ms) (yl, yc, yt, co, pa, su, sc) mc ++ R) [.ref (h 0), .int key, .int (nI time)]) (zQi B D (zWT cI cJ h (n, L) ((zkt kt x), (zkm (zc0 (ms + 1)) km x), (zkl (zc0 (ms + 1)) kl x (nI time))) ((zou o x pt (zkt pt)), (zou o x pm (zkm (zc0 (ms + 1)) pm)), (zou o x pl (fun p => zkl (zc0 (ms + 1)) pl p (nI time)))) (nu, le, ow, fo, (zsel fin false run), wc, lc, (tr + 1), (zsel (zc0 (ms + 1)) (cl + 1) cl), (tm + time), 0) ((zsel fin (upd yl co (nI lc)) yl), (zsel fin (upd yc co (nI (zsel (zc0 (ms + 1)) (cl + 1) cl))) yc), (zsel fin (upd yt co (nI (tm + time))) yt), (zsel fin (co + 1) co), (zsel fin (zpc pa lc (zsel (zc0 (ms + 1)) (cl + 1) cl)) pa), (zsel fin (su + lc) su), (zsel fin (sc + (zsel (zc0 (ms + 1)) (cl + 1) cl)) sc)) (upd mc kk (mc kk + 1)) ++ R) (nI kk)) 0 0 (zAb B) := by
  refine Met.ofW (cc := cX4_strike) (maxL := 4) (ret := (some .int)) (by decide) rfl ?_
  intro p e s m args below meth c s₁ B0 hml hv
  obtain ⟨rfl, hP, hD, hK, hE, hB⟩ := hv
  have hx := B0.exec
  have hb := B0.bytes
  have hr := B0.returns
  have hts := atoms_spec (ws := wsX4_strike) B0.pre
  have hown : s.vm.findClass RX4 = some m.cls := findClass_of_methodNamed B0.named
  have hlocks := B0.notSynchronized
  have hA : ∀ q : Nat, s.heap.size ≤ q → zAb B q := fun q hq => Nat.le_trans hB hq
  have hS : va_S (zAb B) s.heap s.heap [] := va_S.rf
  have hgr : s.heap.size ≤ s.heap.size := Nat.le_refl _
  have hl := lv_entry ([.ref (h 0), .int key, .int (nI time)]) (n := 4) (Nat.le_of_ble_eq_true rfl)
  rw [lg_entry_eq]
  generalize (lg_sl ([.ref (h 0), .int key, .int (nI time)]) ++ List.replicate (4 - (lg_sl ([.ref (h 0), .int key, .int (nI time)])).length) Slot.unset).toArray = ls at hl ⊢
  have hl : lv_has ls 4 [(0, .ref (h 0)), (1, .int key), (2, .int (nI time))] := hl
  have hinX4 : ∀ w ∈ wsX40, w ∈ wsX4_strike := fun _ h => List.mem_cons_of_mem _ (List.mem_append_left _ (List.mem_append_left _ (List.mem_append_left _ (List.mem_append_left _ (List.mem_append_left _ (List.mem_append_left _ (List.mem_append_right _ h)))))))
  have hP : va_P D vwCl (zWT cI cJ h (n, L) (kt, km, kl) (pt, pm, pl) (nu, le, ow, fo, run, wc, lc, tr, cl, tm, ms) (yl, yc, yt, co, pa, su, sc) mc ++ R) s.heap := hP
  have hD : va_D (zAb B) (zWT cI cJ h (n, L) (kt, km, kl) (pt, pm, pl) (nu, le, ow, fo, run, wc, lc, tr, cl, tm, ms) (yl, yc, yt, co, pa, su, sc) mc ++ R) := hD
  refine lv_iload_n hx hb dX4_strike_0 rfl (lv_at hl 1 rfl) ?_
  refine zci (zrS (As := [.int key]) (rest := []) ⟨hx, hb, hml, hown, hts⟩ (zS hP hD hK hE hB hS) (c_X4_isKey  ) (va_cwS 1 hts gX4_strike_X4_isKey rfl rfl rfl hds_X4_isKey ⟨Nat.le_of_ble_eq_true rfl, Nat.le_of_ble_eq_true rfl⟩) rfl rfl hl.1 rfl (lv_room (Nat.le_of_ble_eq_true rfl)) dX4_strike_1 ⟨Nat.le_of_ble_eq_true rfl, Nat.le_of_ble_eq_true rfl⟩) hS (fun H locs hP hD hS => ?_)
  have hP : va_P D vwCl (zWT cI cJ h (n, L) (kt, km, kl) (pt, pm, pl) (nu, le, ow, fo, run, wc, lc, tr, cl, tm, ms) (yl, yc, yt, co, pa, su, sc) mc ++ R) _ := hP
  have hD : va_D (zAb B) (zWT cI cJ h (n, L) (kt, km, kl) (pt, pm, pl) (nu, le, ow, fo, run, wc, lc, tr, cl, tm, ms) (yl, yc, yt, co, pa, su, sc) mc ++ R) := hD
  refine lv_if_ne (tgt := 17) hx hb dX4_strike_4 (by decide) (fun c_1 => ?_) (fun c_1 => ?_)
  · skip
    have c_1 := zq_n c_1
    refine lv_iload_n hx hb dX4_strike_17 rfl (lv_at hl 2 rfl) ?_
    refine lv_iconst (v := 1) hx hb dX4_strike_18 (by decide) ?_
    refine lv_icmp_lt (tgt := 29) hx hb dX4_strike_19 (by decide) (fun c_2 => ?_) (fun c_2 => ?_)
    · skip
      have c_2 : time < 1 := (nI_ltI (a := time) (b := 1) (by omega) (by omega)).mp c_2
      omega
    · skip
      have c_2 : ¬ time < 1 := fun hh => c_2 ((nI_ltI (a := time) (b := 1) (by omega) (by omega)).mpr hh)
      refine lv_iload_n hx hb dX4_strike_22 rfl (lv_at hl 2 rfl) ?_
      refine lv_sipush (v := 5000) hx hb dX4_strike_23 (by decide) ?_
      refine lv_icmp_le (tgt := 39) hx hb dX4_strike_26 (by decide) (fun c_3 => ?_) (fun c_3 => ?_)
      · skip
        have c_3 : time ≤ 5000 := (nI_leI (a := time) (b := 5000) (by omega) (by omega)).mp c_3
        refine lv_aload_n hx hb dX4_strike_39 rfl (lv_at hl 0 rfl) ?_
        refine va_get (ci := 4) (v := .ref (h 11)) (C := RX4) (T := TX4) (N := 6) hx hb hts hinX4 hown hK hP 0 rfl rfl 3 (by decide) (hts (.fieldLink RX4 31 "TypingTutor" "current" "LTypingTutor$Lesson;") (List.mem_of_getElem? (i := 7) rfl)) (fun _ h9 => h9) rfl dX4_strike_40 ?_
        refine zci (zrV (As := []) (rest := []) ⟨hx, hb, hml, hown, hts⟩ (zV 11 hP hD hK hE hB hS rfl rfl) (c_X2_isRunning  ) (cwV 0 hts gX4_strike_X2_isRunning rfl rfl rfl hdv_X2_isRunning ⟨Nat.le_of_ble_eq_true rfl, Nat.le_of_ble_eq_true rfl⟩) rfl rfl hl.1 rfl (lv_room (Nat.le_of_ble_eq_true rfl)) dX4_strike_43 ⟨Nat.le_of_ble_eq_true rfl, Nat.le_of_ble_eq_true rfl⟩) hS (fun H locs hP hD hS => ?_)
        have hP : va_P D vwCl (zWT cI cJ h (n, L) (kt, km, kl) (pt, pm, pl) (nu, le, ow, fo, run, wc, lc, tr, cl, tm, ms) (yl, yc, yt, co, pa, su, sc) mc ++ R) _ := hP
        have hD : va_D (zAb B) (zWT cI cJ h (n, L) (kt, km, kl) (pt, pm, pl) (nu, le, ow, fo, run, wc, lc, tr, cl, tm, ms) (yl, yc, yt, co, pa, su, sc) mc ++ R) := hD
        refine lv_if_ne (tgt := 59) hx hb dX4_strike_46 (by decide) (fun c_4 => ?_) (fun c_4 => ?_)
        · skip
          have c_4 : run = true := zb_n c_4
          refine lv_aload_n hx hb dX4_strike_59 rfl (lv_at hl 0 rfl) ?_
          refine lv_iload_n hx hb dX4_strike_60 rfl (lv_at hl 1 rfl) ?_
          refine zci (zrV (As := [.int key]) (rest := []) ⟨hx, hb, hml, hown, hts⟩ (zV 0 hP hD hK hE hB hS rfl rfl) (c_X4_kindOfStroke  (by omega) (by omega)) (cwV 1 hts gX4_strike_X4_kindOfStroke rfl rfl rfl hdv_X4_kindOfStroke ⟨Nat.le_of_ble_eq_true rfl, Nat.le_of_ble_eq_true rfl⟩) rfl rfl hl.1 rfl (lv_room (Nat.le_of_ble_eq_true rfl)) dX4_strike_61 ⟨Nat.le_of_ble_eq_true rfl, Nat.le_of_ble_eq_true rfl⟩) hS (fun H locs hP hD hS => ?_)
          have hP : va_P D vwCl (zWT cI cJ h (n, L) (kt, km, kl) (pt, pm, pl) (nu, le, ow, fo, run, wc, lc, tr, cl, tm, ms) (yl, yc, yt, co, pa, su, sc) mc ++ R) _ := hP
          have hD : va_D (zAb B) (zWT cI cJ h (n, L) (kt, km, kl) (pt, pm, pl) (nu, le, ow, fo, run, wc, lc, tr, cl, tm, ms) (yl, yc, yt, co, pa, su, sc) mc ++ R) := hD
          rw [show (zkd key le ow lc tr) = (nI kk) from hkk]
          refine lv_istore_n (lv' := [(3, .int (nI kk)), (0, .ref (h 0)), (1, .int key), (2, .int (nI time))]) hx hb dX4_strike_64 rfl hl (by decide) rfl (fun ls hl => ?_)
          refine lv_aload_n hx hb dX4_strike_65 rfl (lv_at hl 1 rfl) ?_
          refine va_get (ci := 4) (v := .ref (h 11)) (C := RX4) (T := TX4) (N := 6) hx hb hts hinX4 hown hK hP 0 rfl rfl 3 (by decide) (hts (.fieldLink RX4 31 "TypingTutor" "current" "LTypingTutor$Lesson;") (List.mem_of_getElem? (i := 7) rfl)) (fun _ h9 => h9) rfl dX4_strike_66 ?_
          refine lv_iload_n hx hb dX4_strike_69 rfl (lv_at hl 0 rfl) ?_
          refine lv_iload_n hx hb dX4_strike_70 rfl (lv_at hl 3 rfl) ?_
          refine zcv (zrV (As := [.int (nI kk), .int (nI time)]) (rest := []) ⟨hx, hb, hml, hown, hts⟩ (zV 11 hP hD hK hE hB hS rfl rfl) (c_X2_noteStroke_x (time := time) (nI_ne0 (by omega) (by omega))) (cwV 2 hts gX4_strike_X2_noteStroke rfl rfl rfl hdv_X2_noteStroke ⟨Nat.le_of_ble_eq_true rfl, Nat.le_of_ble_eq_true rfl⟩) rfl rfl hl.1 rfl (lv_room (Nat.le_of_ble_eq_true rfl)) dX4_strike_71 ⟨Nat.le_of_ble_eq_true rfl, Nat.le_of_ble_eq_true rfl⟩) hS (fun H locs hP hD hS => ?_)
          have hP : va_P D vwCl (zWT cI cJ h (n, L) (kt, km, kl) (pt, pm, pl) (nu, le, ow, fo, run, wc, lc, tr, cl, (tm + time), (ms + 1)) (yl, yc, yt, co, pa, su, sc) mc ++ R) _ := hP
          have hD : va_D (zAb B) (zWT cI cJ h (n, L) (kt, km, kl) (pt, pm, pl) (nu, le, ow, fo, run, wc, lc, tr, cl, (tm + time), (ms + 1)) (yl, yc, yt, co, pa, su, sc) mc ++ R) := hD
          refine lv_iload_n hx hb dX4_strike_74 rfl (lv_at hl 0 rfl) ?_
          refine lv_if_eq (tgt := 96) hx hb dX4_strike_75 (by decide) (fun c_5 => ?_) (fun c_5 => ?_)
          · skip
            have c_5 : kk = 0 := (nI_eq (a := kk) (b := 0) (by omega) (by omega)).mp c_5
            exfalso; first | omega | (revert c_5; decide) | (exact absurd rfl c_5) | simp_all
          · skip
            have c_5 : ¬ kk = 0 := fun hh => c_5 ((nI_eq (a := kk) (b := 0) (by omega) (by omega)).mpr hh)
            refine lv_aload_n hx hb dX4_strike_78 rfl (lv_at hl 1 rfl) ?_
            refine va_get (ci := 4) (v := .ref (h 20)) (C := RX4) (T := TX4) (N := 6) hx hb hts hinX4 hown hK hP 0 rfl rfl 5 (by decide) (hts (.fieldLink RX4 42 "TypingTutor" "mistakeCounts" "[I") (List.mem_of_getElem? (i := 8) rfl)) (fun _ h9 => h9) rfl dX4_strike_79 ?_
            refine lv_iload_n hx hb dX4_strike_82 rfl (lv_at hl 0 rfl) ?_
            refine lv_aload_n hx hb dX4_strike_83 rfl (lv_at hl 1 rfl) ?_
            refine va_get (ci := 4) (v := .ref (h 20)) (C := RX4) (T := TX4) (N := 6) hx hb hts hinX4 hown hK hP 0 rfl rfl 5 (by decide) (hts (.fieldLink RX4 42 "TypingTutor" "mistakeCounts" "[I") (List.mem_of_getElem? (i := 8) rfl)) (fun _ h9 => h9) rfl dX4_strike_84 ?_
            refine lv_iload_n hx hb dX4_strike_87 rfl (lv_at hl 0 rfl) ?_
            refine zci (zrS (As := [.ref (h 20), .int (nI kk)]) (rest := [.int (nI kk), .ref (h 20)]) ⟨hx, hb, hml, hown, hts⟩ (zS hP hD hK hE hB hS) (c_X4_read (q0 := 20) rfl (by omega)) (va_cwS 2 hts gX4_strike_X4_read rfl rfl rfl hds_X4_read ⟨Nat.le_of_ble_eq_true rfl, Nat.le_of_ble_eq_true rfl⟩) rfl rfl hl.1 rfl (lv_room (Nat.le_of_ble_eq_true rfl)) dX4_strike_88 ⟨Nat.le_of_ble_eq_true rfl, Nat.le_of_ble_eq_true rfl⟩) hS (fun H locs hP hD hS => ?_)
            have hP : va_P D vwCl (zWT cI cJ h (n, L) (kt, km, kl) (pt, pm, pl) (nu, le, ow, fo, run, wc, lc, tr, cl, (tm + time), (ms + 1)) (yl, yc, yt, co, pa, su, sc) mc ++ R) _ := hP
            have hD : va_D (zAb B) (zWT cI cJ h (n, L) (kt, km, kl) (pt, pm, pl) (nu, le, ow, fo, run, wc, lc, tr, cl, (tm + time), (ms + 1)) (yl, yc, yt, co, pa, su, sc) mc ++ R) := hD
            rw [show (zrd 5 mc (nI kk)) = (mc kk) from (zrd_in (n := 5) (k := kk) (f := mc) (by omega) (by omega))]
            refine lv_iconst (v := 1) hx hb dX4_strike_91 (by decide) ?_
            refine lv_iadd hx hb dX4_strike_92 ?_
            refine zcv (zrS (As := [.ref (h 20), .int (nI kk), .int ((mc kk) + 1)]) (rest := []) ⟨hx, hb, hml, hown, hts⟩ (zS hP hD hK hE hB hS) (c_X4_write (q0 := 20) rfl (by omega)) (va_cwS 3 hts gX4_strike_X4_write rfl rfl rfl hds_X4_write ⟨Nat.le_of_ble_eq_true rfl, Nat.le_of_ble_eq_true rfl⟩) rfl rfl hl.1 rfl (lv_room (Nat.le_of_ble_eq_true rfl)) dX4_strike_93 ⟨Nat.le_of_ble_eq_true rfl, Nat.le_of_ble_eq_true rfl⟩) hS (fun H locs hP hD hS => ?_)
            have hP : va_P D vwCl (zWT cI cJ h (n, L) (kt, km, kl) (pt, pm, pl) (nu, le, ow, fo, run, wc, lc, tr, cl, (tm + time), (ms + 1)) (yl, yc, yt, co, pa, su, sc) (zwr 5 mc (nI kk) ((mc kk) + 1)) ++ R) _ := hP
            have hD : va_D (zAb B) (zWT cI cJ h (n, L) (kt, km, kl) (pt, pm, pl) (nu, le, ow, fo, run, wc, lc, tr, cl, (tm + time), (ms + 1)) (yl, yc, yt, co, pa, su, sc) (zwr 5 mc (nI kk) ((mc kk) + 1)) ++ R) := hD
            rw [show (zwr 5 mc (nI kk) ((mc kk) + 1)) = (upd mc kk ((mc kk) + 1)) from (zwr_in (n := 5) (k := kk) (f := mc) (v := ((mc kk) + 1)) (by omega) (by omega))] at hP hD
            have hP : va_P D vwCl (zWT cI cJ h (n, L) (kt, km, kl) (pt, pm, pl) (nu, le, ow, fo, run, wc, lc, tr, cl, (tm + time), (ms + 1)) (yl, yc, yt, co, pa, su, sc) (upd mc kk ((mc kk) + 1)) ++ R) _ := hP
            have hD : va_D (zAb B) (zWT cI cJ h (n, L) (kt, km, kl) (pt, pm, pl) (nu, le, ow, fo, run, wc, lc, tr, cl, (tm + time), (ms + 1)) (yl, yc, yt, co, pa, su, sc) (upd mc kk ((mc kk) + 1)) ++ R) := hD
            refine lv_iload_n hx hb dX4_strike_96 rfl (lv_at hl 0 rfl) ?_
            refine lv_if_eq (tgt := 111) hx hb dX4_strike_97 (by decide) (fun c_6 => ?_) (fun c_6 => ?_)
            · skip
              have c_6 : kk = 0 := (nI_eq (a := kk) (b := 0) (by omega) (by omega)).mp c_6
              exfalso; first | omega | (revert c_6; decide) | (exact absurd rfl c_6) | simp_all
            · skip
              have c_6 : ¬ kk = 0 := fun hh => c_6 ((nI_eq (a := kk) (b := 0) (by omega) (by omega)).mpr hh)
              refine lv_aload_n hx hb dX4_strike_100 rfl (lv_at hl 1 rfl) ?_
              refine va_get (ci := 4) (v := .ref (h 11)) (C := RX4) (T := TX4) (N := 6) hx hb hts hinX4 hown hK hP 0 rfl rfl 3 (by decide) (hts (.fieldLink RX4 31 "TypingTutor" "current" "LTypingTutor$Lesson;") (List.mem_of_getElem? (i := 7) rfl)) (fun _ h9 => h9) rfl dX4_strike_101 ?_
              refine zci (zrV (As := []) (rest := []) ⟨hx, hb, hml, hown, hts⟩ (zV 11 hP hD hK hE hB hS rfl rfl) (c_X2_mistakesHere  ) (cwV 0 hts gX4_strike_X2_mistakesHere rfl rfl rfl hdv_X2_mistakesHere ⟨Nat.le_of_ble_eq_true rfl, Nat.le_of_ble_eq_true rfl⟩) rfl rfl hl.1 rfl (lv_room (Nat.le_of_ble_eq_true rfl)) dX4_strike_104 ⟨Nat.le_of_ble_eq_true rfl, Nat.le_of_ble_eq_true rfl⟩) hS (fun H locs hP hD hS => ?_)
              have hP : va_P D vwCl (zWT cI cJ h (n, L) (kt, km, kl) (pt, pm, pl) (nu, le, ow, fo, run, wc, lc, tr, cl, (tm + time), (ms + 1)) (yl, yc, yt, co, pa, su, sc) (upd mc kk ((mc kk) + 1)) ++ R) _ := hP
              have hD : va_D (zAb B) (zWT cI cJ h (n, L) (kt, km, kl) (pt, pm, pl) (nu, le, ow, fo, run, wc, lc, tr, cl, (tm + time), (ms + 1)) (yl, yc, yt, co, pa, su, sc) (upd mc kk ((mc kk) + 1)) ++ R) := hD
              refine lv_iconst (v := 2) hx hb dX4_strike_107 (by decide) ?_
              refine lv_icmp_lt (tgt := 116) hx hb dX4_strike_108 (by decide) (fun c_7 => ?_) (fun c_7 => ?_)
              · skip
                have c_7 : (ms + 1) < 2 := (nI_ltI (a := (ms + 1)) (b := 2) (by omega) (by omega)).mp c_7
                exfalso; first | omega | (revert c_7; decide) | (exact absurd rfl c_7) | simp_all
              · skip
                have c_7 : ¬ (ms + 1) < 2 := fun hh => c_7 ((nI_ltI (a := (ms + 1)) (b := 2) (by omega) (by omega)).mpr hh)
                refine lv_aload_n hx hb dX4_strike_111 rfl (lv_at hl 1 rfl) ?_
                refine lv_iload_n hx hb dX4_strike_112 rfl (lv_at hl 3 rfl) ?_
                refine zcv (zrV (As := [.int (nI time)]) (rest := []) ⟨hx, hb, hml, hown, hts⟩ (zV 0 hP hD hK hE hB hS rfl rfl) (c_X4_tryLetter (x := x) (o := o) (fin := fin) (hx9) (hx26) (ho) (hoy) (hf) (htr) (hlc) (hcl) (hco) (by omega)) (cwV 1 hts gX4_strike_X4_tryLetter rfl rfl rfl hdv_X4_tryLetter ⟨Nat.le_of_ble_eq_true rfl, Nat.le_of_ble_eq_true rfl⟩) rfl rfl hl.1 rfl (lv_room (Nat.le_of_ble_eq_true rfl)) dX4_strike_113 ⟨Nat.le_of_ble_eq_true rfl, Nat.le_of_ble_eq_true rfl⟩) hS (fun H locs hP hD hS => ?_)
                have hP : va_P D vwCl (zWT cI cJ h (n, L) ((zkt kt x), (zkm (zc0 (ms + 1)) km x), (zkl (zc0 (ms + 1)) kl x (nI time))) ((zou o x pt (zkt pt)), (zou o x pm (zkm (zc0 (ms + 1)) pm)), (zou o x pl (fun p => zkl (zc0 (ms + 1)) pl p (nI time)))) (nu, le, ow, fo, (zsel fin false run), wc, lc, (tr + 1), (zsel (zc0 (ms + 1)) (cl + 1) cl), (tm + time), 0) ((zsel fin (upd yl co (nI lc)) yl), (zsel fin (upd yc co (nI (zsel (zc0 (ms + 1)) (cl + 1) cl))) yc), (zsel fin (upd yt co (nI (tm + time))) yt), (zsel fin (co + 1) co), (zsel fin (zpc pa lc (zsel (zc0 (ms + 1)) (cl + 1) cl)) pa), (zsel fin (su + lc) su), (zsel fin (sc + (zsel (zc0 (ms + 1)) (cl + 1) cl)) sc)) (upd mc kk ((mc kk) + 1)) ++ R) _ := hP
                have hD : va_D (zAb B) (zWT cI cJ h (n, L) ((zkt kt x), (zkm (zc0 (ms + 1)) km x), (zkl (zc0 (ms + 1)) kl x (nI time))) ((zou o x pt (zkt pt)), (zou o x pm (zkm (zc0 (ms + 1)) pm)), (zou o x pl (fun p => zkl (zc0 (ms + 1)) pl p (nI time)))) (nu, le, ow, fo, (zsel fin false run), wc, lc, (tr + 1), (zsel (zc0 (ms + 1)) (cl + 1) cl), (tm + time), 0) ((zsel fin (upd yl co (nI lc)) yl), (zsel fin (upd yc co (nI (zsel (zc0 (ms + 1)) (cl + 1) cl))) yc), (zsel fin (upd yt co (nI (tm + time))) yt), (zsel fin (co + 1) co), (zsel fin (zpc pa lc (zsel (zc0 (ms + 1)) (cl + 1) cl)) pa), (zsel fin (su + lc) su), (zsel fin (sc + (zsel (zc0 (ms + 1)) (cl + 1) cl)) sc)) (upd mc kk ((mc kk) + 1)) ++ R) := hD
                refine lv_iload_n hx hb dX4_strike_116 rfl (lv_at hl 0 rfl) ?_
                exact W.iret (v := (nI kk)) hx hb hr (fun t ht hW => ⟨⟨_, (), rfl, rfl, by rw [ht]; exact hP, hD⟩, hS.F ht⟩) hS.2.2 dX4_strike_117
        · skip
          have c_4 : run = false := zb_0 c_4
          exact absurd (c_4.symm.trans hrun) (by decide)
      · skip
        have c_3 : ¬ time ≤ 5000 := fun hh => c_3 ((nI_leI (a := time) (b := 5000) (by omega) (by omega)).mpr hh)
        omega
  · skip
    have c_1 := zq_0 c_1
    exact absurd h1 c_1

set_option maxHeartbeats 1000000 in
set_option maxRecDepth 100000 in
theorem c_X4_strike_x1 {l : Launch} {B kr kp : Nat} {D : va_G} {cI cJ cZ : ClassId} {h : Nat → Nat} {R : va_W} {n : Nat} {L : Nat → Int64} {kt : Nat → Int32} {km : Nat → Int32} {kl : Nat → Int32} {pt : Nat → Int32} {pm : Nat → Int32} {pl : Nat → Int32} {nu : Nat → Int32} {le : Nat → Int32} {ow : Nat → Int32} {fo : Nat → Int32} {run : Bool} {wc : Nat} {lc : Nat} {tr : Nat} {cl : Nat} {tm : Nat} {ms : Nat} {yl : Nat → Int32} {yc : Nat → Int32} {yt : Nat → Int32} {co : Nat} {pa : Int32} {su : Nat} {sc : Nat} {mc : Nat → Int32} {key : Int32} {time : Int32}   (hls : l.stackTraces = false) (h1 : ¬ (¬ key < 0 ∧ ¬ 26 ≤ key)) : vx_Met l yX4_strike wsX4_strike ({ frames := 6, cells := 1, slots := 6, locals := 82 }) (zPc B kr kp D (zTy cI cJ cZ) (zWT cI cJ h (n, L) (kt, km, kl) (pt, pm, pl) (nu, le, ow, fo, run, wc, lc, tr, cl, tm, ms) (yl, yc, yt, co, pa, su, sc) mc ++ R) [.ref (h 0), .int key, .int time]) (zQxi B D (zWT cI cJ h (n, L) (kt, km, kl) (pt, pm, pl) (nu, le, ow, fo, run, wc, lc, tr, cl, tm, ms) (yl, yc, yt, co, pa, su, sc) mc ++ R)) (zXC "java/lang/IndexOutOfBoundsException" B D (zWT cI cJ h (n, L) (kt, km, kl) (pt, pm, pl) (nu, le, ow, fo, run, wc, lc, tr, cl, tm, ms) (yl, yc, yt, co, pa, su, sc) mc ++ R)) 1 6 (zAb B) := by
  refine vx_ofW (cc := cX4_strike) (maxL := 4) (ret := (some .int)) (by decide) rfl ?_
  intro p e s m args below meth c s₁ B0 hml ht9 hv
  obtain ⟨rfl, hP, hD, hK, hE, hB⟩ := hv
  have hx := B0.exec
  have hb := B0.bytes
  have hr := B0.returns
  have hts := atoms_spec (ws := wsX4_strike) B0.pre
  have hown : s.vm.findClass RX4 = some m.cls := findClass_of_methodNamed B0.named
  have hlocks := B0.notSynchronized
  have hA : ∀ q : Nat, s.heap.size ≤ q → zAb B q := fun q hq => Nat.le_trans hB hq
  have hS : va_S (zAb B) s.heap s.heap [] := va_S.rf
  have hgr : s.heap.size ≤ s.heap.size := Nat.le_refl _
  have hl := lv_entry ([.ref (h 0), .int key, .int time]) (n := 4) (Nat.le_of_ble_eq_true rfl)
  rw [lg_entry_eq]
  generalize (lg_sl ([.ref (h 0), .int key, .int time]) ++ List.replicate (4 - (lg_sl ([.ref (h 0), .int key, .int time])).length) Slot.unset).toArray = ls at hl ⊢
  have hl : lv_has ls 4 [(0, .ref (h 0)), (1, .int key), (2, .int time)] := hl
  have hP : va_P D vwCl (zWT cI cJ h (n, L) (kt, km, kl) (pt, pm, pl) (nu, le, ow, fo, run, wc, lc, tr, cl, tm, ms) (yl, yc, yt, co, pa, su, sc) mc ++ R) s.heap := hP
  have hD : va_D (zAb B) (zWT cI cJ h (n, L) (kt, km, kl) (pt, pm, pl) (nu, le, ow, fo, run, wc, lc, tr, cl, tm, ms) (yl, yc, yt, co, pa, su, sc) mc ++ R) := hD
  refine lv_iload_n hx hb dX4_strike_0 rfl (lv_at hl 1 rfl) ?_
  refine zci (zrS (As := [.int key]) (rest := []) ⟨hx, hb, hml, hown, hts⟩ (zS hP hD hK hE hB hS) (c_X4_isKey  ) (va_cwS 1 hts gX4_strike_X4_isKey rfl rfl rfl hds_X4_isKey ⟨Nat.le_of_ble_eq_true rfl, Nat.le_of_ble_eq_true rfl⟩) rfl rfl hl.1 rfl (lv_room (Nat.le_of_ble_eq_true rfl)) dX4_strike_1 ⟨Nat.le_of_ble_eq_true rfl, Nat.le_of_ble_eq_true rfl⟩) hS (fun H locs hP hD hS => ?_)
  have hP : va_P D vwCl (zWT cI cJ h (n, L) (kt, km, kl) (pt, pm, pl) (nu, le, ow, fo, run, wc, lc, tr, cl, tm, ms) (yl, yc, yt, co, pa, su, sc) mc ++ R) _ := hP
  have hD : va_D (zAb B) (zWT cI cJ h (n, L) (kt, km, kl) (pt, pm, pl) (nu, le, ow, fo, run, wc, lc, tr, cl, tm, ms) (yl, yc, yt, co, pa, su, sc) mc ++ R) := hD
  refine lv_if_ne (tgt := 17) hx hb dX4_strike_4 (by decide) (fun c_1 => ?_) (fun c_1 => ?_)
  · skip
    have c_1 := zq_n c_1
    exact absurd c_1 h1
  · skip
    have c_1 := zq_0 c_1
    exact zthrow hx hb hls hown hE hP hD hS (hl.1.trans hml.symm) ht9 hlocks (by decide +kernel) (List.mem_of_getElem? (i := 3) rfl) (by decide +kernel) (hts (.classLink RX4 81 "java/lang/IndexOutOfBoundsException") (List.mem_of_getElem? (i := 1) rfl)) (hts (.initialized "java/lang/IndexOutOfBoundsException") (List.mem_of_getElem? (i := 2) rfl)) (fun w h9 => hts w (List.mem_cons_of_mem _ (List.mem_append_left _ (List.mem_append_left _ (List.mem_append_right _ h9))))) (by decide +kernel) (by decide +kernel) dX4_strike_7 dX4_strike_10 dX4_strike_11 dX4_strike_13 dX4_strike_16 ⟨Nat.le_of_ble_eq_true rfl, Nat.le_of_ble_eq_true rfl, Nat.le_of_ble_eq_true rfl, Nat.le_of_ble_eq_true rfl⟩

set_option maxHeartbeats 1000000 in
set_option maxRecDepth 100000 in
theorem c_X4_strike_x2 {l : Launch} {B kr kp : Nat} {D : va_G} {cI cJ cZ : ClassId} {h : Nat → Nat} {R : va_W} {n : Nat} {L : Nat → Int64} {kt : Nat → Int32} {km : Nat → Int32} {kl : Nat → Int32} {pt : Nat → Int32} {pm : Nat → Int32} {pl : Nat → Int32} {nu : Nat → Int32} {le : Nat → Int32} {ow : Nat → Int32} {fo : Nat → Int32} {run : Bool} {wc : Nat} {lc : Nat} {tr : Nat} {cl : Nat} {tm : Nat} {ms : Nat} {yl : Nat → Int32} {yc : Nat → Int32} {yt : Nat → Int32} {co : Nat} {pa : Int32} {su : Nat} {sc : Nat} {mc : Nat → Int32} {key : Int32} {time : Int32}   (hls : l.stackTraces = false) (h1 : ¬ key < 0 ∧ ¬ 26 ≤ key) (ht9x : time < 1 ∨ ¬ time ≤ 5000) : vx_Met l yX4_strike wsX4_strike ({ frames := 6, cells := 1, slots := 6, locals := 82 }) (zPc B kr kp D (zTy cI cJ cZ) (zWT cI cJ h (n, L) (kt, km, kl) (pt, pm, pl) (nu, le, ow, fo, run, wc, lc, tr, cl, tm, ms) (yl, yc, yt, co, pa, su, sc) mc ++ R) [.ref (h 0), .int key, .int time]) (zQxi B D (zWT cI cJ h (n, L) (kt, km, kl) (pt, pm, pl) (nu, le, ow, fo, run, wc, lc, tr, cl, tm, ms) (yl, yc, yt, co, pa, su, sc) mc ++ R)) (zXC "java/lang/IllegalArgumentException" B D (zWT cI cJ h (n, L) (kt, km, kl) (pt, pm, pl) (nu, le, ow, fo, run, wc, lc, tr, cl, tm, ms) (yl, yc, yt, co, pa, su, sc) mc ++ R)) 1 6 (zAb B) := by
  refine vx_ofW (cc := cX4_strike) (maxL := 4) (ret := (some .int)) (by decide) rfl ?_
  intro p e s m args below meth c s₁ B0 hml ht9 hv
  obtain ⟨rfl, hP, hD, hK, hE, hB⟩ := hv
  have hx := B0.exec
  have hb := B0.bytes
  have hr := B0.returns
  have hts := atoms_spec (ws := wsX4_strike) B0.pre
  have hown : s.vm.findClass RX4 = some m.cls := findClass_of_methodNamed B0.named
  have hlocks := B0.notSynchronized
  have hA : ∀ q : Nat, s.heap.size ≤ q → zAb B q := fun q hq => Nat.le_trans hB hq
  have hS : va_S (zAb B) s.heap s.heap [] := va_S.rf
  have hgr : s.heap.size ≤ s.heap.size := Nat.le_refl _
  have hl := lv_entry ([.ref (h 0), .int key, .int time]) (n := 4) (Nat.le_of_ble_eq_true rfl)
  rw [lg_entry_eq]
  generalize (lg_sl ([.ref (h 0), .int key, .int time]) ++ List.replicate (4 - (lg_sl ([.ref (h 0), .int key, .int time])).length) Slot.unset).toArray = ls at hl ⊢
  have hl : lv_has ls 4 [(0, .ref (h 0)), (1, .int key), (2, .int time)] := hl
  have hP : va_P D vwCl (zWT cI cJ h (n, L) (kt, km, kl) (pt, pm, pl) (nu, le, ow, fo, run, wc, lc, tr, cl, tm, ms) (yl, yc, yt, co, pa, su, sc) mc ++ R) s.heap := hP
  have hD : va_D (zAb B) (zWT cI cJ h (n, L) (kt, km, kl) (pt, pm, pl) (nu, le, ow, fo, run, wc, lc, tr, cl, tm, ms) (yl, yc, yt, co, pa, su, sc) mc ++ R) := hD
  refine lv_iload_n hx hb dX4_strike_0 rfl (lv_at hl 1 rfl) ?_
  refine zci (zrS (As := [.int key]) (rest := []) ⟨hx, hb, hml, hown, hts⟩ (zS hP hD hK hE hB hS) (c_X4_isKey  ) (va_cwS 1 hts gX4_strike_X4_isKey rfl rfl rfl hds_X4_isKey ⟨Nat.le_of_ble_eq_true rfl, Nat.le_of_ble_eq_true rfl⟩) rfl rfl hl.1 rfl (lv_room (Nat.le_of_ble_eq_true rfl)) dX4_strike_1 ⟨Nat.le_of_ble_eq_true rfl, Nat.le_of_ble_eq_true rfl⟩) hS (fun H locs hP hD hS => ?_)
  have hP : va_P D vwCl (zWT cI cJ h (n, L) (kt, km, kl) (pt, pm, pl) (nu, le, ow, fo, run, wc, lc, tr, cl, tm, ms) (yl, yc, yt, co, pa, su, sc) mc ++ R) _ := hP
  have hD : va_D (zAb B) (zWT cI cJ h (n, L) (kt, km, kl) (pt, pm, pl) (nu, le, ow, fo, run, wc, lc, tr, cl, tm, ms) (yl, yc, yt, co, pa, su, sc) mc ++ R) := hD
  refine lv_if_ne (tgt := 17) hx hb dX4_strike_4 (by decide) (fun c_1 => ?_) (fun c_1 => ?_)
  · skip
    have c_1 := zq_n c_1
    refine lv_iload_n hx hb dX4_strike_17 rfl (lv_at hl 2 rfl) ?_
    refine lv_iconst (v := 1) hx hb dX4_strike_18 (by decide) ?_
    refine lv_icmp_lt (tgt := 29) hx hb dX4_strike_19 (by decide) (fun c_2 => ?_) (fun c_2 => ?_)
    · skip
      exact zthrow hx hb hls hown hE hP hD hS (hl.1.trans hml.symm) ht9 hlocks (by decide +kernel) (List.mem_of_getElem? (i := 9) rfl) (by decide +kernel) (hts (.classLink RX4 50 "java/lang/IllegalArgumentException") (List.mem_of_getElem? (i := 3) rfl)) (hts (.initialized "java/lang/IllegalArgumentException") (List.mem_of_getElem? (i := 4) rfl)) (fun w h9 => hts w (List.mem_cons_of_mem _ (List.mem_append_left _ (List.mem_append_right _ h9)))) (by decide +kernel) (by decide +kernel) dX4_strike_29 dX4_strike_32 dX4_strike_33 dX4_strike_35 dX4_strike_38 ⟨Nat.le_of_ble_eq_true rfl, Nat.le_of_ble_eq_true rfl, Nat.le_of_ble_eq_true rfl, Nat.le_of_ble_eq_true rfl⟩
    · skip
      refine lv_iload_n hx hb dX4_strike_22 rfl (lv_at hl 2 rfl) ?_
      refine lv_sipush (v := 5000) hx hb dX4_strike_23 (by decide) ?_
      refine lv_icmp_le (tgt := 39) hx hb dX4_strike_26 (by decide) (fun c_3 => ?_) (fun c_3 => ?_)
      · skip
        exact ht9x.elim (fun q => absurd q c_2) (fun q => absurd c_3 q)
      · skip
        exact zthrow hx hb hls hown hE hP hD hS (hl.1.trans hml.symm) ht9 hlocks (by decide +kernel) (List.mem_of_getElem? (i := 9) rfl) (by decide +kernel) (hts (.classLink RX4 50 "java/lang/IllegalArgumentException") (List.mem_of_getElem? (i := 3) rfl)) (hts (.initialized "java/lang/IllegalArgumentException") (List.mem_of_getElem? (i := 4) rfl)) (fun w h9 => hts w (List.mem_cons_of_mem _ (List.mem_append_left _ (List.mem_append_right _ h9)))) (by decide +kernel) (by decide +kernel) dX4_strike_29 dX4_strike_32 dX4_strike_33 dX4_strike_35 dX4_strike_38 ⟨Nat.le_of_ble_eq_true rfl, Nat.le_of_ble_eq_true rfl, Nat.le_of_ble_eq_true rfl, Nat.le_of_ble_eq_true rfl⟩
  · skip
    have c_1 := zq_0 c_1
    exact absurd h1 c_1

set_option maxHeartbeats 1000000 in
set_option maxRecDepth 100000 in
theorem c_X4_strike_x3 {l : Launch} {B kr kp : Nat} {D : va_G} {cI cJ cZ : ClassId} {h : Nat → Nat} {R : va_W} {n : Nat} {L : Nat → Int64} {kt : Nat → Int32} {km : Nat → Int32} {kl : Nat → Int32} {pt : Nat → Int32} {pm : Nat → Int32} {pl : Nat → Int32} {nu : Nat → Int32} {le : Nat → Int32} {ow : Nat → Int32} {fo : Nat → Int32} {run : Bool} {wc : Nat} {lc : Nat} {tr : Nat} {cl : Nat} {tm : Nat} {ms : Nat} {yl : Nat → Int32} {yc : Nat → Int32} {yt : Nat → Int32} {co : Nat} {pa : Int32} {su : Nat} {sc : Nat} {mc : Nat → Int32} {key : Int32} {time : Int32}   (hls : l.stackTraces = false) (h1 : ¬ key < 0 ∧ ¬ 26 ≤ key) (ht1 : ¬ time < 1) (ht2 : time ≤ 5000) (hrun : run = false) : vx_Met l yX4_strike wsX4_strike ({ frames := 6, cells := 1, slots := 6, locals := 82 }) (zPc B kr kp D (zTy cI cJ cZ) (zWT cI cJ h (n, L) (kt, km, kl) (pt, pm, pl) (nu, le, ow, fo, run, wc, lc, tr, cl, tm, ms) (yl, yc, yt, co, pa, su, sc) mc ++ R) [.ref (h 0), .int key, .int time]) (zQxi B D (zWT cI cJ h (n, L) (kt, km, kl) (pt, pm, pl) (nu, le, ow, fo, run, wc, lc, tr, cl, tm, ms) (yl, yc, yt, co, pa, su, sc) mc ++ R)) (zXC "java/lang/IllegalStateException" B D (zWT cI cJ h (n, L) (kt, km, kl) (pt, pm, pl) (nu, le, ow, fo, run, wc, lc, tr, cl, tm, ms) (yl, yc, yt, co, pa, su, sc) mc ++ R)) 1 6 (zAb B) := by
  refine vx_ofW (cc := cX4_strike) (maxL := 4) (ret := (some .int)) (by decide) rfl ?_
  intro p e s m args below meth c s₁ B0 hml ht9 hv
  obtain ⟨rfl, hP, hD, hK, hE, hB⟩ := hv
  have hx := B0.exec
  have hb := B0.bytes
  have hr := B0.returns
  have hts := atoms_spec (ws := wsX4_strike) B0.pre
  have hown : s.vm.findClass RX4 = some m.cls := findClass_of_methodNamed B0.named
  have hlocks := B0.notSynchronized
  have hA : ∀ q : Nat, s.heap.size ≤ q → zAb B q := fun q hq => Nat.le_trans hB hq
  have hS : va_S (zAb B) s.heap s.heap [] := va_S.rf
  have hgr : s.heap.size ≤ s.heap.size := Nat.le_refl _
  have hl := lv_entry ([.ref (h 0), .int key, .int time]) (n := 4) (Nat.le_of_ble_eq_true rfl)
  rw [lg_entry_eq]
  generalize (lg_sl ([.ref (h 0), .int key, .int time]) ++ List.replicate (4 - (lg_sl ([.ref (h 0), .int key, .int time])).length) Slot.unset).toArray = ls at hl ⊢
  have hl : lv_has ls 4 [(0, .ref (h 0)), (1, .int key), (2, .int time)] := hl
  have hinX4 : ∀ w ∈ wsX40, w ∈ wsX4_strike := fun _ h => List.mem_cons_of_mem _ (List.mem_append_left _ (List.mem_append_left _ (List.mem_append_left _ (List.mem_append_left _ (List.mem_append_left _ (List.mem_append_left _ (List.mem_append_right _ h)))))))
  have hP : va_P D vwCl (zWT cI cJ h (n, L) (kt, km, kl) (pt, pm, pl) (nu, le, ow, fo, run, wc, lc, tr, cl, tm, ms) (yl, yc, yt, co, pa, su, sc) mc ++ R) s.heap := hP
  have hD : va_D (zAb B) (zWT cI cJ h (n, L) (kt, km, kl) (pt, pm, pl) (nu, le, ow, fo, run, wc, lc, tr, cl, tm, ms) (yl, yc, yt, co, pa, su, sc) mc ++ R) := hD
  refine lv_iload_n hx hb dX4_strike_0 rfl (lv_at hl 1 rfl) ?_
  refine zci (zrS (As := [.int key]) (rest := []) ⟨hx, hb, hml, hown, hts⟩ (zS hP hD hK hE hB hS) (c_X4_isKey  ) (va_cwS 1 hts gX4_strike_X4_isKey rfl rfl rfl hds_X4_isKey ⟨Nat.le_of_ble_eq_true rfl, Nat.le_of_ble_eq_true rfl⟩) rfl rfl hl.1 rfl (lv_room (Nat.le_of_ble_eq_true rfl)) dX4_strike_1 ⟨Nat.le_of_ble_eq_true rfl, Nat.le_of_ble_eq_true rfl⟩) hS (fun H locs hP hD hS => ?_)
  have hP : va_P D vwCl (zWT cI cJ h (n, L) (kt, km, kl) (pt, pm, pl) (nu, le, ow, fo, run, wc, lc, tr, cl, tm, ms) (yl, yc, yt, co, pa, su, sc) mc ++ R) _ := hP
  have hD : va_D (zAb B) (zWT cI cJ h (n, L) (kt, km, kl) (pt, pm, pl) (nu, le, ow, fo, run, wc, lc, tr, cl, tm, ms) (yl, yc, yt, co, pa, su, sc) mc ++ R) := hD
  refine lv_if_ne (tgt := 17) hx hb dX4_strike_4 (by decide) (fun c_1 => ?_) (fun c_1 => ?_)
  · skip
    have c_1 := zq_n c_1
    refine lv_iload_n hx hb dX4_strike_17 rfl (lv_at hl 2 rfl) ?_
    refine lv_iconst (v := 1) hx hb dX4_strike_18 (by decide) ?_
    refine lv_icmp_lt (tgt := 29) hx hb dX4_strike_19 (by decide) (fun c_2 => ?_) (fun c_2 => ?_)
    · skip
      exact absurd c_2 ht1
    · skip
      refine lv_iload_n hx hb dX4_strike_22 rfl (lv_at hl 2 rfl) ?_
      refine lv_sipush (v := 5000) hx hb dX4_strike_23 (by decide) ?_
      refine lv_icmp_le (tgt := 39) hx hb dX4_strike_26 (by decide) (fun c_3 => ?_) (fun c_3 => ?_)
      · skip
        refine lv_aload_n hx hb dX4_strike_39 rfl (lv_at hl 0 rfl) ?_
        refine va_get (ci := 4) (v := .ref (h 11)) (C := RX4) (T := TX4) (N := 6) hx hb hts hinX4 hown hK hP 0 rfl rfl 3 (by decide) (hts (.fieldLink RX4 31 "TypingTutor" "current" "LTypingTutor$Lesson;") (List.mem_of_getElem? (i := 7) rfl)) (fun _ h9 => h9) rfl dX4_strike_40 ?_
        refine zci (zrV (As := []) (rest := []) ⟨hx, hb, hml, hown, hts⟩ (zV 11 hP hD hK hE hB hS rfl rfl) (c_X2_isRunning  ) (cwV 0 hts gX4_strike_X2_isRunning rfl rfl rfl hdv_X2_isRunning ⟨Nat.le_of_ble_eq_true rfl, Nat.le_of_ble_eq_true rfl⟩) rfl rfl hl.1 rfl (lv_room (Nat.le_of_ble_eq_true rfl)) dX4_strike_43 ⟨Nat.le_of_ble_eq_true rfl, Nat.le_of_ble_eq_true rfl⟩) hS (fun H locs hP hD hS => ?_)
        have hP : va_P D vwCl (zWT cI cJ h (n, L) (kt, km, kl) (pt, pm, pl) (nu, le, ow, fo, run, wc, lc, tr, cl, tm, ms) (yl, yc, yt, co, pa, su, sc) mc ++ R) _ := hP
        have hD : va_D (zAb B) (zWT cI cJ h (n, L) (kt, km, kl) (pt, pm, pl) (nu, le, ow, fo, run, wc, lc, tr, cl, tm, ms) (yl, yc, yt, co, pa, su, sc) mc ++ R) := hD
        refine lv_if_ne (tgt := 59) hx hb dX4_strike_46 (by decide) (fun c_4 => ?_) (fun c_4 => ?_)
        · skip
          have c_4 : run = true := zb_n c_4
          exact absurd (c_4.symm.trans hrun) (by decide)
        · skip
          have c_4 : run = false := zb_0 c_4
          exact zthrow hx hb hls hown hE hP hD hS (hl.1.trans hml.symm) ht9 hlocks (by decide +kernel) (List.mem_of_getElem? (i := 7) rfl) (by decide +kernel) (hts (.classLink RX4 64 "java/lang/IllegalStateException") (List.mem_of_getElem? (i := 5) rfl)) (hts (.initialized "java/lang/IllegalStateException") (List.mem_of_getElem? (i := 6) rfl)) (fun w h9 => hts w (List.mem_cons_of_mem _ (List.mem_append_right _ h9))) (by decide +kernel) (by decide +kernel) dX4_strike_49 dX4_strike_52 dX4_strike_53 dX4_strike_55 dX4_strike_58 ⟨Nat.le_of_ble_eq_true rfl, Nat.le_of_ble_eq_true rfl, Nat.le_of_ble_eq_true rfl, Nat.le_of_ble_eq_true rfl⟩
      · skip
        exact absurd ht2 c_3
  · skip
    have c_1 := zq_0 c_1
    exact absurd h1 c_1
