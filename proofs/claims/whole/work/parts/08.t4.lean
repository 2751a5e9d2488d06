set_option maxHeartbeats 4000000 in
set_option maxRecDepth 100000 in
theorem c_X4_tryLetter {l : Launch} {B kr kp : Nat} {D : va_G} {cI cJ cZ : ClassId} {h : Nat → Nat} {R : va_W} {n : Nat} {L : Nat → Int64} {kt : Nat → Int32} {km : Nat → Int32} {kl : Nat → Int32} {pt : Nat → Int32} {pm : Nat → Int32} {pl : Nat → Int32} {nu : Nat → Int32} {le : Nat → Int32} {ow : Nat → Int32} {fo : Nat → Int32} {run : Bool} {wc : Nat} {lc : Nat} {tr : Nat} {cl : Nat} {tm : Nat} {ms : Nat} {yl : Nat → Int32} {yc : Nat → Int32} {yt : Nat → Int32} {co : Nat} {pa : Int32} {su : Nat} {sc : Nat} {mc : Nat → Int32} {time : Int32} {x : Nat} {o : Option Nat} {fin : Bool}  (hx9 : le tr = nI x) (hx26 : x < 26) (ho : zis le ow lc tr (nI tr - 1) = zoI o) (hoy : ∀ y, o = some y → y < 26) (hf : zsel fin (tr + 1 = lc) (tr + 1 < lc)) (htr : tr < lc) (hlc : lc ≤ 48) (hcl : cl ≤ tr) (hco : co < 256) : Met l yX4_tryLetter wsX4_tryLetter ({ frames := 3, cells := 0, slots := 0, locals := 70 }) (zPc B kr kp D (zTy cI cJ cZ) (zWT cI cJ h (n, L) (kt, km, kl) (pt, pm, pl) (nu, le, ow, fo, run, wc, lc, tr, cl, tm, ms) (yl, yc, yt, co, pa, su, sc) mc ++ R) [.ref (h 0), .int time]) (zQv B D (zWT cI cJ h (n, L) ((zkt kt x), (zkm (zc0 ms) km x), (zkl (zc0 ms) kl x time)) ((zou o x pt (zkt pt)), (zou o x pm (zkm (zc0 ms) pm)), (zou o x pl (fun p => zkl (zc0 ms) pl p time))) (nu, le, ow, fo, (zsel fin false run), wc, lc, (tr + 1), (zsel (zc0 ms) (cl + 1) cl), tm, 0) ((zsel fin (upd yl co (nI lc)) yl), (zsel fin (upd yc co (nI (zsel (zc0 ms) (cl + 1) cl))) yc), (zsel fin (upd yt co (nI tm)) yt), (zsel fin (co + 1) co), (zsel fin (zpc pa lc (zsel (zc0 ms) (cl + 1) cl)) pa), (zsel fin (su + lc) su), (zsel fin (sc + (zsel (zc0 ms) (cl + 1) cl)) sc)) mc ++ R)) 0 0 (zAb B) := by
  cases ms with
  | zero =>
    cases o with
    | none =>
      cases fin with
      | true =>
        refine Met.ofW (cc := cX4_tryLetter) (maxL := 5) (ret := none) (by decide) rfl ?_
        intro p e s m args below meth c s₁ B0 hml hv
        obtain ⟨rfl, hP, hD, hK, hE, hB⟩ := hv
        have hx := B0.exec
        have hb := B0.bytes
        have hr := B0.returns
        have hts := atoms_spec (ws := wsX4_tryLetter) B0.pre
        have hown : s.vm.findClass RX4 = some m.cls := findClass_of_methodNamed B0.named
        have hlocks := B0.notSynchronized
        have hA : ∀ q : Nat, s.heap.size ≤ q → zAb B q := fun q hq => Nat.le_trans hB hq
        have hS : va_S (zAb B) s.heap s.heap [] := va_S.rf
        have hl := lv_entry ([.ref (h 0), .int time]) (n := 5) (Nat.le_of_ble_eq_true rfl)
        rw [lg_entry_eq]
        generalize (lg_sl ([.ref (h 0), .int time]) ++ List.replicate (5 - (lg_sl ([.ref (h 0), .int time])).length) Slot.unset).toArray = ls at hl ⊢
        have hl : lv_has ls 5 [(0, .ref (h 0)), (1, .int time)] := hl
        have hinX4 : ∀ w ∈ wsX40, w ∈ wsX4_tryLetter := fun _ h => List.mem_cons_of_mem _ (List.mem_append_left _ (List.mem_append_left _ (List.mem_append_left _ (List.mem_append_right _ h))))
        have hP : va_P D vwCl (zWT cI cJ h (n, L) (kt, km, kl) (pt, pm, pl) (nu, le, ow, fo, run, wc, lc, tr, cl, tm, 0) (yl, yc, yt, co, pa, su, sc) mc ++ R) s.heap := hP
        have hD : va_D (zAb B) (zWT cI cJ h (n, L) (kt, km, kl) (pt, pm, pl) (nu, le, ow, fo, run, wc, lc, tr, cl, tm, 0) (yl, yc, yt, co, pa, su, sc) mc ++ R) := hD
        have hf : tr + 1 = lc := hf
        refine lv_aload_n hx hb dX4_tryLetter_0 rfl (lv_at hl 0 rfl) ?_
        refine va_get (ci := 4) (v := .ref (h 11)) (C := RX4) (T := TX4) (N := 6) hx hb hts hinX4 hown hK hP 0 rfl rfl 3 (by decide) (hts (.fieldLink RX4 31 "TypingTutor" "current" "LTypingTutor$Lesson;") (List.mem_of_getElem? (i := 1) rfl)) (fun _ h9 => h9) rfl dX4_tryLetter_1 ?_
        refine zci (zrV (As := []) (rest := []) ⟨hx, hb, hml, hown, hts⟩ (zV 11 hP hD hK hE hB hS rfl rfl) (c_X2_mistakesHere  ) (cwV 0 hts gX4_tryLetter_X2_mistakesHere rfl rfl rfl hdv_X2_mistakesHere ⟨Nat.le_of_ble_eq_true rfl, Nat.le_of_ble_eq_true rfl⟩) rfl rfl hl.1 rfl (lv_room (Nat.le_of_ble_eq_true rfl)) dX4_tryLetter_4 ⟨Nat.le_of_ble_eq_true rfl, Nat.le_of_ble_eq_true rfl⟩) hS (fun H locs hP hD hS => ?_)
        have hP : va_P D vwCl (zWT cI cJ h (n, L) (kt, km, kl) (pt, pm, pl) (nu, le, ow, fo, run, wc, lc, tr, cl, tm, 0) (yl, yc, yt, co, pa, su, sc) mc ++ R) _ := hP
        have hD : va_D (zAb B) (zWT cI cJ h (n, L) (kt, km, kl) (pt, pm, pl) (nu, le, ow, fo, run, wc, lc, tr, cl, tm, 0) (yl, yc, yt, co, pa, su, sc) mc ++ R) := hD
        refine lv_if_ne (tgt := 14) hx hb dX4_tryLetter_7 (by decide) (fun c_1 => ?_) (fun c_1 => ?_)
        · skip
          exfalso; first | omega | (revert c_1; decide) | (exact absurd rfl c_1) | simp_all
        · skip
          refine lv_iconst (v := 1) hx hb dX4_tryLetter_10 (by decide) ?_
          refine lv_goto (tgt := 15) hx hb dX4_tryLetter_11 (by decide) ?_
          refine lv_istore_n (lv' := [(2, .int 1), (0, .ref (h 0)), (1, .int time)]) hx hb dX4_tryLetter_15 rfl hl (by decide) rfl (fun ls hl => ?_)
          refine lv_aload_n hx hb dX4_tryLetter_16 rfl (lv_at hl 1 rfl) ?_
          refine va_get (ci := 4) (v := .ref (h 11)) (C := RX4) (T := TX4) (N := 6) hx hb hts hinX4 hown hK hP 0 rfl rfl 3 (by decide) (hts (.fieldLink RX4 31 "TypingTutor" "current" "LTypingTutor$Lesson;") (List.mem_of_getElem? (i := 1) rfl)) (fun _ h9 => h9) rfl dX4_tryLetter_17 ?_
          refine zci (zrV (As := []) (rest := []) ⟨hx, hb, hml, hown, hts⟩ (zV 11 hP hD hK hE hB hS rfl rfl) (c_X2_letterHere  (by omega)) (cwV 0 hts gX4_tryLetter_X2_letterHere rfl rfl rfl hdv_X2_letterHere ⟨Nat.le_of_ble_eq_true rfl, Nat.le_of_ble_eq_true rfl⟩) rfl rfl hl.1 rfl (lv_room (Nat.le_of_ble_eq_true rfl)) dX4_tryLetter_20 ⟨Nat.le_of_ble_eq_true rfl, Nat.le_of_ble_eq_true rfl⟩) hS (fun H locs hP hD hS => ?_)
          have hP : va_P D vwCl (zWT cI cJ h (n, L) (kt, km, kl) (pt, pm, pl) (nu, le, ow, fo, run, wc, lc, tr, cl, tm, 0) (yl, yc, yt, co, pa, su, sc) mc ++ R) _ := hP
          have hD : va_D (zAb B) (zWT cI cJ h (n, L) (kt, km, kl) (pt, pm, pl) (nu, le, ow, fo, run, wc, lc, tr, cl, tm, 0) (yl, yc, yt, co, pa, su, sc) mc ++ R) := hD
          rw [show (le tr) = (nI x) from hx9]
          refine lv_istore_n (lv' := [(3, .int (nI x)), (2, .int 1), (0, .ref (h 0)), (1, .int time)]) hx hb dX4_tryLetter_23 rfl hl (by decide) rfl (fun ls hl => ?_)
          refine lv_aload_n hx hb dX4_tryLetter_24 rfl (lv_at hl 2 rfl) ?_
          refine va_get (ci := 4) (v := .ref (h 11)) (C := RX4) (T := TX4) (N := 6) hx hb hts hinX4 hown hK hP 0 rfl rfl 3 (by decide) (hts (.fieldLink RX4 31 "TypingTutor" "current" "LTypingTutor$Lesson;") (List.mem_of_getElem? (i := 1) rfl)) (fun _ h9 => h9) rfl dX4_tryLetter_25 ?_
          refine zci (zrV (As := []) (rest := []) ⟨hx, hb, hml, hown, hts⟩ (zV 11 hP hD hK hE hB hS rfl rfl) (c_X2_letterBefore  (by omega) (by omega)) (cwV 0 hts gX4_tryLetter_X2_letterBefore rfl rfl rfl hdv_X2_letterBefore ⟨Nat.le_of_ble_eq_true rfl, Nat.le_of_ble_eq_true rfl⟩) rfl rfl hl.1 rfl (lv_room (Nat.le_of_ble_eq_true rfl)) dX4_tryLetter_28 ⟨Nat.le_of_ble_eq_true rfl, Nat.le_of_ble_eq_true rfl⟩) hS (fun H locs hP hD hS => ?_)
          have hP : va_P D vwCl (zWT cI cJ h (n, L) (kt, km, kl) (pt, pm, pl) (nu, le, ow, fo, run, wc, lc, tr, cl, tm, 0) (yl, yc, yt, co, pa, su, sc) mc ++ R) _ := hP
          have hD : va_D (zAb B) (zWT cI cJ h (n, L) (kt, km, kl) (pt, pm, pl) (nu, le, ow, fo, run, wc, lc, tr, cl, tm, 0) (yl, yc, yt, co, pa, su, sc) mc ++ R) := hD
          rw [show (zis le ow lc tr (nI tr - 1)) = (-1) from ho]
          refine lv_istore (lv' := [(4, .int (-1)), (3, .int (nI x)), (2, .int 1), (0, .ref (h 0)), (1, .int time)]) hx hb dX4_tryLetter_31 hl (by decide) rfl (fun ls hl => ?_)
          refine lv_aload_n hx hb dX4_tryLetter_33 rfl (lv_at hl 3 rfl) ?_
          refine va_get (ci := 4) (v := .ref (h 3)) (C := RX4) (T := TX4) (N := 6) hx hb hts hinX4 hown hK hP 0 rfl rfl 1 (by decide) (hts (.fieldLink RX4 21 "TypingTutor" "keys" "LTypingTutor$Knowledge;") (List.mem_of_getElem? (i := 2) rfl)) (fun _ h9 => h9) rfl dX4_tryLetter_34 ?_
          refine lv_iload_n hx hb dX4_tryLetter_37 rfl (lv_at hl 1 rfl) ?_
          refine lv_iload_n hx hb dX4_tryLetter_38 rfl (lv_at hl 2 rfl) ?_
          refine lv_iload_n hx hb dX4_tryLetter_39 rfl (lv_at hl 4 rfl) ?_
          refine zcv (zrV (As := [.int (nI x), .int 1, .int time]) (rest := []) ⟨hx, hb, hml, hown, hts⟩ (zV 3 hP hD hK hE hB hS rfl rfl) (c_X1_learn_k (k := x) (b := true) (by omega)) (cwV 3 hts gX4_tryLetter_X1_learn rfl rfl rfl hdv_X1_learn ⟨Nat.le_of_ble_eq_true rfl, Nat.le_of_ble_eq_true rfl⟩) rfl rfl hl.1 rfl (lv_room (Nat.le_of_ble_eq_true rfl)) dX4_tryLetter_40 ⟨Nat.le_of_ble_eq_true rfl, Nat.le_of_ble_eq_true rfl⟩) hS (fun H locs hP hD hS => ?_)
          have hP : va_P D vwCl (zWT cI cJ h (n, L) ((zkt kt x), (zkm true km x), (zkl true kl x time)) (pt, pm, pl) (nu, le, ow, fo, run, wc, lc, tr, cl, tm, 0) (yl, yc, yt, co, pa, su, sc) mc ++ R) _ := hP
          have hD : va_D (zAb B) (zWT cI cJ h (n, L) ((zkt kt x), (zkm true km x), (zkl true kl x time)) (pt, pm, pl) (nu, le, ow, fo, run, wc, lc, tr, cl, tm, 0) (yl, yc, yt, co, pa, su, sc) mc ++ R) := hD
          refine lv_iload hx hb dX4_tryLetter_43 (lv_at hl 0 rfl) ?_
          refine lv_iconst (v := (-1)) hx hb dX4_tryLetter_45 (by decide) ?_
          refine lv_icmp_eq (tgt := 64) hx hb dX4_tryLetter_46 (by decide) (fun c_2 => ?_) (fun c_2 => ?_)
          · skip
            refine lv_aload_n hx hb dX4_tryLetter_64 rfl (lv_at hl 3 rfl) ?_
            refine va_get (ci := 4) (v := .ref (h 11)) (C := RX4) (T := TX4) (N := 6) hx hb hts hinX4 hown hK hP 0 rfl rfl 3 (by decide) (hts (.fieldLink RX4 31 "TypingTutor" "current" "LTypingTutor$Lesson;") (List.mem_of_getElem? (i := 1) rfl)) (fun _ h9 => h9) rfl dX4_tryLetter_65 ?_
            refine lv_iload_n hx hb dX4_tryLetter_68 rfl (lv_at hl 2 rfl) ?_
            refine zcv (zrV (As := [.int 1]) (rest := []) ⟨hx, hb, hml, hown, hts⟩ (zV 11 hP hD hK hE hB hS rfl rfl) (c_X2_goOn_1  ) (cwV 1 hts gX4_tryLetter_X2_goOn rfl rfl rfl hdv_X2_goOn ⟨Nat.le_of_ble_eq_true rfl, Nat.le_of_ble_eq_true rfl⟩) rfl rfl hl.1 rfl (lv_room (Nat.le_of_ble_eq_true rfl)) dX4_tryLetter_69 ⟨Nat.le_of_ble_eq_true rfl, Nat.le_of_ble_eq_true rfl⟩) hS (fun H locs hP hD hS => ?_)
            have hP : va_P D vwCl (zWT cI cJ h (n, L) ((zkt kt x), (zkm true km x), (zkl true kl x time)) (pt, pm, pl) (nu, le, ow, fo, run, wc, lc, (tr + 1), (cl + 1), tm, 0) (yl, yc, yt, co, pa, su, sc) mc ++ R) _ := hP
            have hD : va_D (zAb B) (zWT cI cJ h (n, L) ((zkt kt x), (zkm true km x), (zkl true kl x time)) (pt, pm, pl) (nu, le, ow, fo, run, wc, lc, (tr + 1), (cl + 1), tm, 0) (yl, yc, yt, co, pa, su, sc) mc ++ R) := hD
            refine lv_aload_n hx hb dX4_tryLetter_72 rfl (lv_at hl 3 rfl) ?_
            refine va_get (ci := 4) (v := .ref (h 11)) (C := RX4) (T := TX4) (N := 6) hx hb hts hinX4 hown hK hP 0 rfl rfl 3 (by decide) (hts (.fieldLink RX4 31 "TypingTutor" "current" "LTypingTutor$Lesson;") (List.mem_of_getElem? (i := 1) rfl)) (fun _ h9 => h9) rfl dX4_tryLetter_73 ?_
            refine zci (zrV (As := []) (rest := []) ⟨hx, hb, hml, hown, hts⟩ (zV 11 hP hD hK hE hB hS rfl rfl) (c_X2_triedTotal  ) (cwV 0 hts gX4_tryLetter_X2_triedTotal rfl rfl rfl hdv_X2_triedTotal ⟨Nat.le_of_ble_eq_true rfl, Nat.le_of_ble_eq_true rfl⟩) rfl rfl hl.1 rfl (lv_room (Nat.le_of_ble_eq_true rfl)) dX4_tryLetter_76 ⟨Nat.le_of_ble_eq_true rfl, Nat.le_of_ble_eq_true rfl⟩) hS (fun H locs hP hD hS => ?_)
            have hP : va_P D vwCl (zWT cI cJ h (n, L) ((zkt kt x), (zkm true km x), (zkl true kl x time)) (pt, pm, pl) (nu, le, ow, fo, run, wc, lc, (tr + 1), (cl + 1), tm, 0) (yl, yc, yt, co, pa, su, sc) mc ++ R) _ := hP
            have hD : va_D (zAb B) (zWT cI cJ h (n, L) ((zkt kt x), (zkm true km x), (zkl true kl x time)) (pt, pm, pl) (nu, le, ow, fo, run, wc, lc, (tr + 1), (cl + 1), tm, 0) (yl, yc, yt, co, pa, su, sc) mc ++ R) := hD
            refine lv_aload_n hx hb dX4_tryLetter_79 rfl (lv_at hl 3 rfl) ?_
            refine va_get (ci := 4) (v := .ref (h 11)) (C := RX4) (T := TX4) (N := 6) hx hb hts hinX4 hown hK hP 0 rfl rfl 3 (by decide) (hts (.fieldLink RX4 31 "TypingTutor" "current" "LTypingTutor$Lesson;") (List.mem_of_getElem? (i := 1) rfl)) (fun _ h9 => h9) rfl dX4_tryLetter_80 ?_
            refine zci (zrV (As := []) (rest := [.int (nI (tr + 1))]) ⟨hx, hb, hml, hown, hts⟩ (zV 11 hP hD hK hE hB hS rfl rfl) (c_X2_letterTotal  ) (cwV 0 hts gX4_tryLetter_X2_letterTotal rfl rfl rfl hdv_X2_letterTotal ⟨Nat.le_of_ble_eq_true rfl, Nat.le_of_ble_eq_true rfl⟩) rfl rfl hl.1 rfl (lv_room (Nat.le_of_ble_eq_true rfl)) dX4_tryLetter_83 ⟨Nat.le_of_ble_eq_true rfl, Nat.le_of_ble_eq_true rfl⟩) hS (fun H locs hP hD hS => ?_)
            have hP : va_P D vwCl (zWT cI cJ h (n, L) ((zkt kt x), (zkm true km x), (zkl true kl x time)) (pt, pm, pl) (nu, le, ow, fo, run, wc, lc, (tr + 1), (cl + 1), tm, 0) (yl, yc, yt, co, pa, su, sc) mc ++ R) _ := hP
            have hD : va_D (zAb B) (zWT cI cJ h (n, L) ((zkt kt x), (zkm true km x), (zkl true kl x time)) (pt, pm, pl) (nu, le, ow, fo, run, wc, lc, (tr + 1), (cl + 1), tm, 0) (yl, yc, yt, co, pa, su, sc) mc ++ R) := hD
            refine lv_icmp_lt (tgt := 124) hx hb dX4_tryLetter_86 (by decide) (fun c_3 => ?_) (fun c_3 => ?_)
            · skip
              have c_3 : (tr + 1) < lc := (nI_ltI (a := (tr + 1)) (b := lc) (by omega) (by omega)).mp c_3
              exact W.vret hx hb hr (fun t ht hW => ⟨⟨(), rfl, trivial, by rw [ht]; exact hP, hD⟩, hS.F ht⟩) hS.2.2 dX4_tryLetter_124
            · skip
              have c_3 : ¬ (tr + 1) < lc := fun hh => c_3 ((nI_ltI (a := (tr + 1)) (b := lc) (by omega) (by omega)).mpr hh)
              refine lv_aload_n hx hb dX4_tryLetter_89 rfl (lv_at hl 3 rfl) ?_
              refine va_get (ci := 4) (v := .ref (h 11)) (C := RX4) (T := TX4) (N := 6) hx hb hts hinX4 hown hK hP 0 rfl rfl 3 (by decide) (hts (.fieldLink RX4 31 "TypingTutor" "current" "LTypingTutor$Lesson;") (List.mem_of_getElem? (i := 1) rfl)) (fun _ h9 => h9) rfl dX4_tryLetter_90 ?_
              refine zcv (zrV (As := []) (rest := []) ⟨hx, hb, hml, hown, hts⟩ (zV 11 hP hD hK hE hB hS rfl rfl) (c_X2_stop  ) (cwV 0 hts gX4_tryLetter_X2_stop rfl rfl rfl hdv_X2_stop ⟨Nat.le_of_ble_eq_true rfl, Nat.le_of_ble_eq_true rfl⟩) rfl rfl hl.1 rfl (lv_room (Nat.le_of_ble_eq_true rfl)) dX4_tryLetter_93 ⟨Nat.le_of_ble_eq_true rfl, Nat.le_of_ble_eq_true rfl⟩) hS (fun H locs hP hD hS => ?_)
              have hP : va_P D vwCl (zWT cI cJ h (n, L) ((zkt kt x), (zkm true km x), (zkl true kl x time)) (pt, pm, pl) (nu, le, ow, fo, false, wc, lc, (tr + 1), (cl + 1), tm, 0) (yl, yc, yt, co, pa, su, sc) mc ++ R) _ := hP
              have hD : va_D (zAb B) (zWT cI cJ h (n, L) ((zkt kt x), (zkm true km x), (zkl true kl x time)) (pt, pm, pl) (nu, le, ow, fo, false, wc, lc, (tr + 1), (cl + 1), tm, 0) (yl, yc, yt, co, pa, su, sc) mc ++ R) := hD
              refine lv_aload_n hx hb dX4_tryLetter_96 rfl (lv_at hl 3 rfl) ?_
              refine va_get (ci := 4) (v := .ref (h 16)) (C := RX4) (T := TX4) (N := 6) hx hb hts hinX4 hown hK hP 0 rfl rfl 4 (by decide) (hts (.fieldLink RX4 38 "TypingTutor" "past" "LTypingTutor$History;") (List.mem_of_getElem? (i := 4) rfl)) (fun _ h9 => h9) rfl dX4_tryLetter_97 ?_
              refine lv_aload_n hx hb dX4_tryLetter_100 rfl (lv_at hl 3 rfl) ?_
              refine va_get (ci := 4) (v := .ref (h 11)) (C := RX4) (T := TX4) (N := 6) hx hb hts hinX4 hown hK hP 0 rfl rfl 3 (by decide) (hts (.fieldLink RX4 31 "TypingTutor" "current" "LTypingTutor$Lesson;") (List.mem_of_getElem? (i := 1) rfl)) (fun _ h9 => h9) rfl dX4_tryLetter_101 ?_
              refine zci (zrV (As := []) (rest := [.ref (h 16)]) ⟨hx, hb, hml, hown, hts⟩ (zV 11 hP hD hK hE hB hS rfl rfl) (c_X2_letterTotal  ) (cwV 0 hts gX4_tryLetter_X2_letterTotal rfl rfl rfl hdv_X2_letterTotal ⟨Nat.le_of_ble_eq_true rfl, Nat.le_of_ble_eq_true rfl⟩) rfl rfl hl.1 rfl (lv_room (Nat.le_of_ble_eq_true rfl)) dX4_tryLetter_104 ⟨Nat.le_of_ble_eq_true rfl, Nat.le_of_ble_eq_true rfl⟩) hS (fun H locs hP hD hS => ?_)
              have hP : va_P D vwCl (zWT cI cJ h (n, L) ((zkt kt x), (zkm true km x), (zkl true kl x time)) (pt, pm, pl) (nu, le, ow, fo, false, wc, lc, (tr + 1), (cl + 1), tm, 0) (yl, yc, yt, co, pa, su, sc) mc ++ R) _ := hP
              have hD : va_D (zAb B) (zWT cI cJ h (n, L) ((zkt kt x), (zkm true km x), (zkl true kl x time)) (pt, pm, pl) (nu, le, ow, fo, false, wc, lc, (tr + 1), (cl + 1), tm, 0) (yl, yc, yt, co, pa, su, sc) mc ++ R) := hD
              refine lv_aload_n hx hb dX4_tryLetter_107 rfl (lv_at hl 3 rfl) ?_
              refine va_get (ci := 4) (v := .ref (h 11)) (C := RX4) (T := TX4) (N := 6) hx hb hts hinX4 hown hK hP 0 rfl rfl 3 (by decide) (hts (.fieldLink RX4 31 "TypingTutor" "current" "LTypingTutor$Lesson;") (List.mem_of_getElem? (i := 1) rfl)) (fun _ h9 => h9) rfl dX4_tryLetter_108 ?_
              refine zci (zrV (As := []) (rest := [.int (nI lc), .ref (h 16)]) ⟨hx, hb, hml, hown, hts⟩ (zV 11 hP hD hK hE hB hS rfl rfl) (c_X2_cleanTotal  ) (cwV 0 hts gX4_tryLetter_X2_cleanTotal rfl rfl rfl hdv_X2_cleanTotal ⟨Nat.le_of_ble_eq_true rfl, Nat.le_of_ble_eq_true rfl⟩) rfl rfl hl.1 rfl (lv_room (Nat.le_of_ble_eq_true rfl)) dX4_tryLetter_111 ⟨Nat.le_of_ble_eq_true rfl, Nat.le_of_ble_eq_true rfl⟩) hS (fun H locs hP hD hS => ?_)
              have hP : va_P D vwCl (zWT cI cJ h (n, L) ((zkt kt x), (zkm true km x), (zkl true kl x time)) (pt, pm, pl) (nu, le, ow, fo, false, wc, lc, (tr + 1), (cl + 1), tm, 0) (yl, yc, yt, co, pa, su, sc) mc ++ R) _ := hP
              have hD : va_D (zAb B) (zWT cI cJ h (n, L) ((zkt kt x), (zkm true km x), (zkl true kl x time)) (pt, pm, pl) (nu, le, ow, fo, false, wc, lc, (tr + 1), (cl + 1), tm, 0) (yl, yc, yt, co, pa, su, sc) mc ++ R) := hD
              refine lv_aload_n hx hb dX4_tryLetter_114 rfl (lv_at hl 3 rfl) ?_
              refine va_get (ci := 4) (v := .ref (h 11)) (C := RX4) (T := TX4) (N := 6) hx hb hts hinX4 hown hK hP 0 rfl rfl 3 (by decide) (hts (.fieldLink RX4 31 "TypingTutor" "current" "LTypingTutor$Lesson;") (List.mem_of_getElem? (i := 1) rfl)) (fun _ h9 => h9) rfl dX4_tryLetter_115 ?_
              refine zci (zrV (As := []) (rest := [.int (nI (cl + 1)), .int (nI lc), .ref (h 16)]) ⟨hx, hb, hml, hown, hts⟩ (zV 11 hP hD hK hE hB hS rfl rfl) (c_X2_timeSum  ) (cwV 0 hts gX4_tryLetter_X2_timeSum rfl rfl rfl hdv_X2_timeSum ⟨Nat.le_of_ble_eq_true rfl, Nat.le_of_ble_eq_true rfl⟩) rfl rfl hl.1 rfl (lv_room (Nat.le_of_ble_eq_true rfl)) dX4_tryLetter_118 ⟨Nat.le_of_ble_eq_true rfl, Nat.le_of_ble_eq_true rfl⟩) hS (fun H locs hP hD hS => ?_)
              have hP : va_P D vwCl (zWT cI cJ h (n, L) ((zkt kt x), (zkm true km x), (zkl true kl x time)) (pt, pm, pl) (nu, le, ow, fo, false, wc, lc, (tr + 1), (cl + 1), tm, 0) (yl, yc, yt, co, pa, su, sc) mc ++ R) _ := hP
              have hD : va_D (zAb B) (zWT cI cJ h (n, L) ((zkt kt x), (zkm true km x), (zkl true kl x time)) (pt, pm, pl) (nu, le, ow, fo, false, wc, lc, (tr + 1), (cl + 1), tm, 0) (yl, yc, yt, co, pa, su, sc) mc ++ R) := hD
              refine zcv (zrV (As := [.int (nI lc), .int (nI (cl + 1)), .int (nI tm)]) (rest := []) ⟨hx, hb, hml, hown, hts⟩ (zV 16 hP hD hK hE hB hS rfl rfl) (c_X0_keep (lt := lc) (ct := (cl + 1)) (ts := tm) (by omega) (by omega) (by omega)) (cwV 3 hts gX4_tryLetter_X0_keep rfl rfl rfl hdv_X0_keep ⟨Nat.le_of_ble_eq_true rfl, Nat.le_of_ble_eq_true rfl⟩) rfl rfl hl.1 rfl (lv_room (Nat.le_of_ble_eq_true rfl)) dX4_tryLetter_121 ⟨Nat.le_of_ble_eq_true rfl, Nat.le_of_ble_eq_true rfl⟩) hS (fun H locs hP hD hS => ?_)
              have hP : va_P D vwCl (zWT cI cJ h (n, L) ((zkt kt x), (zkm true km x), (zkl true kl x time)) (pt, pm, pl) (nu, le, ow, fo, false, wc, lc, (tr + 1), (cl + 1), tm, 0) ((upd yl co (nI lc)), (upd yc co (nI (cl + 1))), (upd yt co (nI tm)), (co + 1), (zpc pa lc (cl + 1)), (su + lc), (sc + (cl + 1))) mc ++ R) _ := hP
              have hD : va_D (zAb B) (zWT cI cJ h (n, L) ((zkt kt x), (zkm true km x), (zkl true kl x time)) (pt, pm, pl) (nu, le, ow, fo, false, wc, lc, (tr + 1), (cl + 1), tm, 0) ((upd yl co (nI lc)), (upd yc co (nI (cl + 1))), (upd yt co (nI tm)), (co + 1), (zpc pa lc (cl + 1)), (su + lc), (sc + (cl + 1))) mc ++ R) := hD
              exact W.vret hx hb hr (fun t ht hW => ⟨⟨(), rfl, trivial, by rw [ht]; exact hP, hD⟩, hS.F ht⟩) hS.2.2 dX4_tryLetter_124
          · skip
            exfalso; first | omega | (revert c_2; decide) | (exact absurd rfl c_2) | simp_all
      | false =>
        refine Met.ofW (cc := cX4_tryLetter) (maxL := 5) (ret := none) (by decide) rfl ?_
        intro p e s m args below meth c s₁ B0 hml hv
        obtain ⟨rfl, hP, hD, hK, hE, hB⟩ := hv
        have hx := B0.exec
        have hb := B0.bytes
        have hr := B0.returns
        have hts := atoms_spec (ws := wsX4_tryLetter) B0.pre
        have hown : s.vm.findClass RX4 = some m.cls := findClass_of_methodNamed B0.named
        have hlocks := B0.notSynchronized
        have hA : ∀ q : Nat, s.heap.size ≤ q → zAb B q := fun q hq => Nat.le_trans hB hq
        have hS : va_S (zAb B) s.heap s.heap [] := va_S.rf
        have hl := lv_entry ([.ref (h 0), .int time]) (n := 5) (Nat.le_of_ble_eq_true rfl)
        rw [lg_entry_eq]
        generalize (lg_sl ([.ref (h 0), .int time]) ++ List.replicate (5 - (lg_sl ([.ref (h 0), .int time])).length) Slot.unset).toArray = ls at hl ⊢
        have hl : lv_has ls 5 [(0, .ref (h 0)), (1, .int time)] := hl
        have hinX4 : ∀ w ∈ wsX40, w ∈ wsX4_tryLetter := fun _ h => List.mem_cons_of_mem _ (List.mem_append_left _ (List.mem_append_left _ (List.mem_append_left _ (List.mem_append_right _ h))))
        have hP : va_P D vwCl (zWT cI cJ h (n, L) (kt, km, kl) (pt, pm, pl) (nu, le, ow, fo, run, wc, lc, tr, cl, tm, 0) (yl, yc, yt, co, pa, su, sc) mc ++ R) s.heap := hP
        have hD : va_D (zAb B) (zWT cI cJ h (n, L) (kt, km, kl) (pt, pm, pl) (nu, le, ow, fo, run, wc, lc, tr, cl, tm, 0) (yl, yc, yt, co, pa, su, sc) mc ++ R) := hD
        have hf : tr + 1 < lc := hf
        refine lv_aload_n hx hb dX4_tryLetter_0 rfl (lv_at hl 0 rfl) ?_
        refine va_get (ci := 4) (v := .ref (h 11)) (C := RX4) (T := TX4) (N := 6) hx hb hts hinX4 hown hK hP 0 rfl rfl 3 (by decide) (hts (.fieldLink RX4 31 "TypingTutor" "current" "LTypingTutor$Lesson;") (List.mem_of_getElem? (i := 1) rfl)) (fun _ h9 => h9) rfl dX4_tryLetter_1 ?_
        refine zci (zrV (As := []) (rest := []) ⟨hx, hb, hml, hown, hts⟩ (zV 11 hP hD hK hE hB hS rfl rfl) (c_X2_mistakesHere  ) (cwV 0 hts gX4_tryLetter_X2_mistakesHere rfl rfl rfl hdv_X2_mistakesHere ⟨Nat.le_of_ble_eq_true rfl, Nat.le_of_ble_eq_true rfl⟩) rfl rfl hl.1 rfl (lv_room (Nat.le_of_ble_eq_true rfl)) dX4_tryLetter_4 ⟨Nat.le_of_ble_eq_true rfl, Nat.le_of_ble_eq_true rfl⟩) hS (fun H locs hP hD hS => ?_)
        have hP : va_P D vwCl (zWT cI cJ h (n, L) (kt, km, kl) (pt, pm, pl) (nu, le, ow, fo, run, wc, lc, tr, cl, tm, 0) (yl, yc, yt, co, pa, su, sc) mc ++ R) _ := hP
        have hD : va_D (zAb B) (zWT cI cJ h (n, L) (kt, km, kl) (pt, pm, pl) (nu, le, ow, fo, run, wc, lc, tr, cl, tm, 0) (yl, yc, yt, co, pa, su, sc) mc ++ R) := hD
        refine lv_if_ne (tgt := 14) hx hb dX4_tryLetter_7 (by decide) (fun c_4 => ?_) (fun c_4 => ?_)
        · skip
          exfalso; first | omega | (revert c_4; decide) | (exact absurd rfl c_4) | simp_all
        · skip
          refine lv_iconst (v := 1) hx hb dX4_tryLetter_10 (by decide) ?_
          refine lv_goto (tgt := 15) hx hb dX4_tryLetter_11 (by decide) ?_
          refine lv_istore_n (lv' := [(2, .int 1), (0, .ref (h 0)), (1, .int time)]) hx hb dX4_tryLetter_15 rfl hl (by decide) rfl (fun ls hl => ?_)
          refine lv_aload_n hx hb dX4_tryLetter_16 rfl (lv_at hl 1 rfl) ?_
          refine va_get (ci := 4) (v := .ref (h 11)) (C := RX4) (T := TX4) (N := 6) hx hb hts hinX4 hown hK hP 0 rfl rfl 3 (by decide) (hts (.fieldLink RX4 31 "TypingTutor" "current" "LTypingTutor$Lesson;") (List.mem_of_getElem? (i := 1) rfl)) (fun _ h9 => h9) rfl dX4_tryLetter_17 ?_
          refine zci (zrV (As := []) (rest := []) ⟨hx, hb, hml, hown, hts⟩ (zV 11 hP hD hK hE hB hS rfl rfl) (c_X2_letterHere  (by omega)) (cwV 0 hts gX4_tryLetter_X2_letterHere rfl rfl rfl hdv_X2_letterHere ⟨Nat.le_of_ble_eq_true rfl, Nat.le_of_ble_eq_true rfl⟩) rfl rfl hl.1 rfl (lv_room (Nat.le_of_ble_eq_true rfl)) dX4_tryLetter_20 ⟨Nat.le_of_ble_eq_true rfl, Nat.le_of_ble_eq_true rfl⟩) hS (fun H locs hP hD hS => ?_)
          have hP : va_P D vwCl (zWT cI cJ h (n, L) (kt, km, kl) (pt, pm, pl) (nu, le, ow, fo, run, wc, lc, tr, cl, tm, 0) (yl, yc, yt, co, pa, su, sc) mc ++ R) _ := hP
          have hD : va_D (zAb B) (zWT cI cJ h (n, L) (kt, km, kl) (pt, pm, pl) (nu, le, ow, fo, run, wc, lc, tr, cl, tm, 0) (yl, yc, yt, co, pa, su, sc) mc ++ R) := hD
          rw [show (le tr) = (nI x) from hx9]
          refine lv_istore_n (lv' := [(3, .int (nI x)), (2, .int 1), (0, .ref (h 0)), (1, .int time)]) hx hb dX4_tryLetter_23 rfl hl (by decide) rfl (fun ls hl => ?_)
          refine lv_aload_n hx hb dX4_tryLetter_24 rfl (lv_at hl 2 rfl) ?_
          refine va_get (ci := 4) (v := .ref (h 11)) (C := RX4) (T := TX4) (N := 6) hx hb hts hinX4 hown hK hP 0 rfl rfl 3 (by decide) (hts (.fieldLink RX4 31 "TypingTutor" "current" "LTypingTutor$Lesson;") (List.mem_of_getElem? (i := 1) rfl)) (fun _ h9 => h9) rfl dX4_tryLetter_25 ?_
          refine zci (zrV (As := []) (rest := []) ⟨hx, hb, hml, hown, hts⟩ (zV 11 hP hD hK hE hB hS rfl rfl) (c_X2_letterBefore  (by omega) (by omega)) (cwV 0 hts gX4_tryLetter_X2_letterBefore rfl rfl rfl hdv_X2_letterBefore ⟨Nat.le_of_ble_eq_true rfl, Nat.le_of_ble_eq_true rfl⟩) rfl rfl hl.1 rfl (lv_room (Nat.le_of_ble_eq_true rfl)) dX4_tryLetter_28 ⟨Nat.le_of_ble_eq_true rfl, Nat.le_of_ble_eq_true rfl⟩) hS (fun H locs hP hD hS => ?_)
          have hP : va_P D vwCl (zWT cI cJ h (n, L) (kt, km, kl) (pt, pm, pl) (nu, le, ow, fo, run, wc, lc, tr, cl, tm, 0) (yl, yc, yt, co, pa, su, sc) mc ++ R) _ := hP
          have hD : va_D (zAb B) (zWT cI cJ h (n, L) (kt, km, kl) (pt, pm, pl) (nu, le, ow, fo, run, wc, lc, tr, cl, tm, 0) (yl, yc, yt, co, pa, su, sc) mc ++ R) := hD
          rw [show (zis le ow lc tr (nI tr - 1)) = (-1) from ho]
          refine lv_istore (lv' := [(4, .int (-1)), (3, .int (nI x)), (2, .int 1), (0, .ref (h 0)), (1, .int time)]) hx hb dX4_tryLetter_31 hl (by decide) rfl (fun ls hl => ?_)
          refine lv_aload_n hx hb dX4_tryLetter_33 rfl (lv_at hl 3 rfl) ?_
          refine va_get (ci := 4) (v := .ref (h 3)) (C := RX4) (T := TX4) (N := 6) hx hb hts hinX4 hown hK hP 0 rfl rfl 1 (by decide) (hts (.fieldLink RX4 21 "TypingTutor" "keys" "LTypingTutor$Knowledge;") (List.mem_of_getElem? (i := 2) rfl)) (fun _ h9 => h9) rfl dX4_tryLetter_34 ?_
          refine lv_iload_n hx hb dX4_tryLetter_37 rfl (lv_at hl 1 rfl) ?_
          refine lv_iload_n hx hb dX4_tryLetter_38 rfl (lv_at hl 2 rfl) ?_
          refine lv_iload_n hx hb dX4_tryLetter_39 rfl (lv_at hl 4 rfl) ?_
          refine zcv (zrV (As := [.int (nI x), .int 1, .int time]) (rest := []) ⟨hx, hb, hml, hown, hts⟩ (zV 3 hP hD hK hE hB hS rfl rfl) (c_X1_learn_k (k := x) (b := true) (by omega)) (cwV 3 hts gX4_tryLetter_X1_learn rfl rfl rfl hdv_X1_learn ⟨Nat.le_of_ble_eq_true rfl, Nat.le_of_ble_eq_true rfl⟩) rfl rfl hl.1 rfl (lv_room (Nat.le_of_ble_eq_true rfl)) dX4_tryLetter_40 ⟨Nat.le_of_ble_eq_true rfl, Nat.le_of_ble_eq_true rfl⟩) hS (fun H locs hP hD hS => ?_)
          have hP : va_P D vwCl (zWT cI cJ h (n, L) ((zkt kt x), (zkm true km x), (zkl true kl x time)) (pt, pm, pl) (nu, le, ow, fo, run, wc, lc, tr, cl, tm, 0) (yl, yc, yt, co, pa, su, sc) mc ++ R) _ := hP
          have hD : va_D (zAb B) (zWT cI cJ h (n, L) ((zkt kt x), (zkm true km x), (zkl true kl x time)) (pt, pm, pl) (nu, le, ow, fo, run, wc, lc, tr, cl, tm, 0) (yl, yc, yt, co, pa, su, sc) mc ++ R) := hD
          refine lv_iload hx hb dX4_tryLetter_43 (lv_at hl 0 rfl) ?_
          refine lv_iconst (v := (-1)) hx hb dX4_tryLetter_45 (by decide) ?_
          refine lv_icmp_eq (tgt := 64) hx hb dX4_tryLetter_46 (by decide) (fun c_5 => ?_) (fun c_5 => ?_)
          · skip
            refine lv_aload_n hx hb dX4_tryLetter_64 rfl (lv_at hl 3 rfl) ?_
            refine va_get (ci := 4) (v := .ref (h 11)) (C := RX4) (T := TX4) (N := 6) hx hb hts hinX4 hown hK hP 0 rfl rfl 3 (by decide) (hts (.fieldLink RX4 31 "TypingTutor" "current" "LTypingTutor$Lesson;") (List.mem_of_getElem? (i := 1) rfl)) (fun _ h9 => h9) rfl dX4_tryLetter_65 ?_
            refine lv_iload_n hx hb dX4_tryLetter_68 rfl (lv_at hl 2 rfl) ?_
            refine zcv (zrV (As := [.int 1]) (rest := []) ⟨hx, hb, hml, hown, hts⟩ (zV 11 hP hD hK hE hB hS rfl rfl) (c_X2_goOn_1  ) (cwV 1 hts gX4_tryLetter_X2_goOn rfl rfl rfl hdv_X2_goOn ⟨Nat.le_of_ble_eq_true rfl, Nat.le_of_ble_eq_true rfl⟩) rfl rfl hl.1 rfl (lv_room (Nat.le_of_ble_eq_true rfl)) dX4_tryLetter_69 ⟨Nat.le_of_ble_eq_true rfl, Nat.le_of_ble_eq_true rfl⟩) hS (fun H locs hP hD hS => ?_)
            have hP : va_P D vwCl (zWT cI cJ h (n, L) ((zkt kt x), (zkm true km x), (zkl true kl x time)) (pt, pm, pl) (nu, le, ow, fo, run, wc, lc, (tr + 1), (cl + 1), tm, 0) (yl, yc, yt, co, pa, su, sc) mc ++ R) _ := hP
            have hD : va_D (zAb B) (zWT cI cJ h (n, L) ((zkt kt x), (zkm true km x), (zkl true kl x time)) (pt, pm, pl) (nu, le, ow, fo, run, wc, lc, (tr + 1), (cl + 1), tm, 0) (yl, yc, yt, co, pa, su, sc) mc ++ R) := hD
            refine lv_aload_n hx hb dX4_tryLetter_72 rfl (lv_at hl 3 rfl) ?_
            refine va_get (ci := 4) (v := .ref (h 11)) (C := RX4) (T := TX4) (N := 6) hx hb hts hinX4 hown hK hP 0 rfl rfl 3 (by decide) (hts (.fieldLink RX4 31 "TypingTutor" "current" "LTypingTutor$Lesson;") (List.mem_of_getElem? (i := 1) rfl)) (fun _ h9 => h9) rfl dX4_tryLetter_73 ?_
            refine zci (zrV (As := []) (rest := []) ⟨hx, hb, hml, hown, hts⟩ (zV 11 hP hD hK hE hB hS rfl rfl) (c_X2_triedTotal  ) (cwV 0 hts gX4_tryLetter_X2_triedTotal rfl rfl rfl hdv_X2_triedTotal ⟨Nat.le_of_ble_eq_true rfl, Nat.le_of_ble_eq_true rfl⟩) rfl rfl hl.1 rfl (lv_room (Nat.le_of_ble_eq_true rfl)) dX4_tryLetter_76 ⟨Nat.le_of_ble_eq_true rfl, Nat.le_of_ble_eq_true rfl⟩) hS (fun H locs hP hD hS => ?_)
            have hP : va_P D vwCl (zWT cI cJ h (n, L) ((zkt kt x), (zkm true km x), (zkl true kl x time)) (pt, pm, pl) (nu, le, ow, fo, run, wc, lc, (tr + 1), (cl + 1), tm, 0) (yl, yc, yt, co, pa, su, sc) mc ++ R) _ := hP
            have hD : va_D (zAb B) (zWT cI cJ h (n, L) ((zkt kt x), (zkm true km x), (zkl true kl x time)) (pt, pm, pl) (nu, le, ow, fo, run, wc, lc, (tr + 1), (cl + 1), tm, 0) (yl, yc, yt, co, pa, su, sc) mc ++ R) := hD
            refine lv_aload_n hx hb dX4_tryLetter_79 rfl (lv_at hl 3 rfl) ?_
            refine va_get (ci := 4) (v := .ref (h 11)) (C := RX4) (T := TX4) (N := 6) hx hb hts hinX4 hown hK hP 0 rfl rfl 3 (by decide) (hts (.fieldLink RX4 31 "TypingTutor" "current" "LTypingTutor$Lesson;") (List.mem_of_getElem? (i := 1) rfl)) (fun _ h9 => h9) rfl dX4_tryLetter_80 ?_
            refine zci (zrV (As := []) (rest := [.int (nI (tr + 1))]) ⟨hx, hb, hml, hown, hts⟩ (zV 11 hP hD hK hE hB hS rfl rfl) (c_X2_letterTotal  ) (cwV 0 hts gX4_tryLetter_X2_letterTotal rfl rfl rfl hdv_X2_letterTotal ⟨Nat.le_of_ble_eq_true rfl, Nat.le_of_ble_eq_true rfl⟩) rfl rfl hl.1 rfl (lv_room (Nat.le_of_ble_eq_true rfl)) dX4_tryLetter_83 ⟨Nat.le_of_ble_eq_true rfl, Nat.le_of_ble_eq_true rfl⟩) hS (fun H locs hP hD hS => ?_)
            have hP : va_P D vwCl (zWT cI cJ h (n, L) ((zkt kt x), (zkm true km x), (zkl true kl x time)) (pt, pm, pl) (nu, le, ow, fo, run, wc, lc, (tr + 1), (cl + 1), tm, 0) (yl, yc, yt, co, pa, su, sc) mc ++ R) _ := hP
            have hD : va_D (zAb B) (zWT cI cJ h (n, L) ((zkt kt x), (zkm true km x), (zkl true kl x time)) (pt, pm, pl) (nu, le, ow, fo, run, wc, lc, (tr + 1), (cl + 1), tm, 0) (yl, yc, yt, co, pa, su, sc) mc ++ R) := hD
            refine lv_icmp_lt (tgt := 124) hx hb dX4_tryLetter_86 (by decide) (fun c_6 => ?_) (fun c_6 => ?_)
            · skip
              have c_6 : (tr + 1) < lc := (nI_ltI (a := (tr + 1)) (b := lc) (by omega) (by omega)).mp c_6
              exact W.vret hx hb hr (fun t ht hW => ⟨⟨(), rfl, trivial, by rw [ht]; exact hP, hD⟩, hS.F ht⟩) hS.2.2 dX4_tryLetter_124
            · skip
              have c_6 : ¬ (tr + 1) < lc := fun hh => c_6 ((nI_ltI (a := (tr + 1)) (b := lc) (by omega) (by omega)).mpr hh)
              refine lv_aload_n hx hb dX4_tryLetter_89 rfl (lv_at hl 3 rfl) ?_
              refine va_get (ci := 4) (v := .ref (h 11)) (C := RX4) (T := TX4) (N := 6) hx hb hts hinX4 hown hK hP 0 rfl rfl 3 (by decide) (hts (.fieldLink RX4 31 "TypingTutor" "current" "LTypingTutor$Lesson;") (List.mem_of_getElem? (i := 1) rfl)) (fun _ h9 => h9) rfl dX4_tryLetter_90 ?_
              refine zcv (zrV (As := []) (rest := []) ⟨hx, hb, hml, hown, hts⟩ (zV 11 hP hD hK hE hB hS rfl rfl) (c_X2_stop  ) (cwV 0 hts gX4_tryLetter_X2_stop rfl rfl rfl hdv_X2_stop ⟨Nat.le_of_ble_eq_true rfl, Nat.le_of_ble_eq_true rfl⟩) rfl rfl hl.1 rfl (lv_room (Nat.le_of_ble_eq_true rfl)) dX4_tryLetter_93 ⟨Nat.le_of_ble_eq_true rfl, Nat.le_of_ble_eq_true rfl⟩) hS (fun H locs hP hD hS => ?_)
              have hP : va_P D vwCl (zWT cI cJ h (n, L) ((zkt kt x), (zkm true km x), (zkl true kl x time)) (pt, pm, pl) (nu, le, ow, fo, false, wc, lc, (tr + 1), (cl + 1), tm, 0) (yl, yc, yt, co, pa, su, sc) mc ++ R) _ := hP
              have hD : va_D (zAb B) (zWT cI cJ h (n, L) ((zkt kt x), (zkm true km x), (zkl true kl x time)) (pt, pm, pl) (nu, le, ow, fo, false, wc, lc, (tr + 1), (cl + 1), tm, 0) (yl, yc, yt, co, pa, su, sc) mc ++ R) := hD
              refine lv_aload_n hx hb dX4_tryLetter_96 rfl (lv_at hl 3 rfl) ?_
              refine va_get (ci := 4) (v := .ref (h 16)) (C := RX4) (T := TX4) (N := 6) hx hb hts hinX4 hown hK hP 0 rfl rfl 4 (by decide) (hts (.fieldLink RX4 38 "TypingTutor" "past" "LTypingTutor$History;") (List.mem_of_getElem? (i := 4) rfl)) (fun _ h9 => h9) rfl dX4_tryLetter_97 ?_
              refine lv_aload_n hx hb dX4_tryLetter_100 rfl (lv_at hl 3 rfl) ?_
              refine va_get (ci := 4) (v := .ref (h 11)) (C := RX4) (T := TX4) (N := 6) hx hb hts hinX4 hown hK hP 0 rfl rfl 3 (by decide) (hts (.fieldLink RX4 31 "TypingTutor" "current" "LTypingTutor$Lesson;") (List.mem_of_getElem? (i := 1) rfl)) (fun _ h9 => h9) rfl dX4_tryLetter_101 ?_
              refine zci (zrV (As := []) (rest := [.ref (h 16)]) ⟨hx, hb, hml, hown, hts⟩ (zV 11 hP hD hK hE hB hS rfl rfl) (c_X2_letterTotal  ) (cwV 0 hts gX4_tryLetter_X2_letterTotal rfl rfl rfl hdv_X2_letterTotal ⟨Nat.le_of_ble_eq_true rfl, Nat.le_of_ble_eq_true rfl⟩) rfl rfl hl.1 rfl (lv_room (Nat.le_of_ble_eq_true rfl)) dX4_tryLetter_104 ⟨Nat.le_of_ble_eq_true rfl, Nat.le_of_ble_eq_true rfl⟩) hS (fun H locs hP hD hS => ?_)
              have hP : va_P D vwCl (zWT cI cJ h (n, L) ((zkt kt x), (zkm true km x), (zkl true kl x time)) (pt, pm, pl) (nu, le, ow, fo, false, wc, lc, (tr + 1), (cl + 1), tm, 0) (yl, yc, yt, co, pa, su, sc) mc ++ R) _ := hP
              have hD : va_D (zAb B) (zWT cI cJ h (n, L) ((zkt kt x), (zkm true km x), (zkl true kl x time)) (pt, pm, pl) (nu, le, ow, fo, false, wc, lc, (tr + 1), (cl + 1), tm, 0) (yl, yc, yt, co, pa, su, sc) mc ++ R) := hD
              refine lv_aload_n hx hb dX4_tryLetter_107 rfl (lv_at hl 3 rfl) ?_
              refine va_get (ci := 4) (v := .ref (h 11)) (C := RX4) (T := TX4) (N := 6) hx hb hts hinX4 hown hK hP 0 rfl rfl 3 (by decide) (hts (.fieldLink RX4 31 "TypingTutor" "current" "LTypingTutor$Lesson;") (List.mem_of_getElem? (i := 1) rfl)) (fun _ h9 => h9) rfl dX4_tryLetter_108 ?_
              refine zci (zrV (As := []) (rest := [.int (nI lc), .ref (h 16)]) ⟨hx, hb, hml, hown, hts⟩ (zV 11 hP hD hK hE hB hS rfl rfl) (c_X2_cleanTotal  ) (cwV 0 hts gX4_tryLetter_X2_cleanTotal rfl rfl rfl hdv_X2_cleanTotal ⟨Nat.le_of_ble_eq_true rfl, Nat.le_of_ble_eq_true rfl⟩) rfl rfl hl.1 rfl (lv_room (Nat.le_of_ble_eq_true rfl)) dX4_tryLetter_111 ⟨Nat.le_of_ble_eq_true rfl, Nat.le_of_ble_eq_true rfl⟩) hS (fun H locs hP hD hS => ?_)
              have hP : va_P D vwCl (zWT cI cJ h (n, L) ((zkt kt x), (zkm true km x), (zkl true kl x time)) (pt, pm, pl) (nu, le, ow, fo, false, wc, lc, (tr + 1), (cl + 1), tm, 0) (yl, yc, yt, co, pa, su, sc) mc ++ R) _ := hP
              have hD : va_D (zAb B) (zWT cI cJ h (n, L) ((zkt kt x), (zkm true km x), (zkl true kl x time)) (pt, pm, pl) (nu, le, ow, fo, false, wc, lc, (tr + 1), (cl + 1), tm, 0) (yl, yc, yt, co, pa, su, sc) mc ++ R) := hD
              refine lv_aload_n hx hb dX4_tryLetter_114 rfl (lv_at hl 3 rfl) ?_
              refine va_get (ci := 4) (v := .ref (h 11)) (C := RX4) (T := TX4) (N := 6) hx hb hts hinX4 hown hK hP 0 rfl rfl 3 (by decide) (hts (.fieldLink RX4 31 "TypingTutor" "current" "LTypingTutor$Lesson;") (List.mem_of_getElem? (i := 1) rfl)) (fun _ h9 => h9) rfl dX4_tryLetter_115 ?_
              refine zci (zrV (As := []) (rest := [.int (nI (cl + 1)), .int (nI lc), .ref (h 16)]) ⟨hx, hb, hml, hown, hts⟩ (zV 11 hP hD hK hE hB hS rfl rfl) (c_X2_timeSum  ) (cwV 0 hts gX4_tryLetter_X2_timeSum rfl rfl rfl hdv_X2_timeSum ⟨Nat.le_of_ble_eq_true rfl, Nat.le_of_ble_eq_true rfl⟩) rfl rfl hl.1 rfl (lv_room (Nat.le_of_ble_eq_true rfl)) dX4_tryLetter_118 ⟨Nat.le_of_ble_eq_true rfl, Nat.le_of_ble_eq_true rfl⟩) hS (fun H locs hP hD hS => ?_)
              have hP : va_P D vwCl (zWT cI cJ h (n, L) ((zkt kt x), (zkm true km x), (zkl true kl x time)) (pt, pm, pl) (nu, le, ow, fo, false, wc, lc, (tr + 1), (cl + 1), tm, 0) (yl, yc, yt, co, pa, su, sc) mc ++ R) _ := hP
              have hD : va_D (zAb B) (zWT cI cJ h (n, L) ((zkt kt x), (zkm true km x), (zkl true kl x time)) (pt, pm, pl) (nu, le, ow, fo, false, wc, lc, (tr + 1), (cl + 1), tm, 0) (yl, yc, yt, co, pa, su, sc) mc ++ R) := hD
              refine zcv (zrV (As := [.int (nI lc), .int (nI (cl + 1)), .int (nI tm)]) (rest := []) ⟨hx, hb, hml, hown, hts⟩ (zV 16 hP hD hK hE hB hS rfl rfl) (c_X0_keep (lt := lc) (ct := (cl + 1)) (ts := tm) (by omega) (by omega) (by omega)) (cwV 3 hts gX4_tryLetter_X0_keep rfl rfl rfl hdv_X0_keep ⟨Nat.le_of_ble_eq_true rfl, Nat.le_of_ble_eq_true rfl⟩) rfl rfl hl.1 rfl (lv_room (Nat.le_of_ble_eq_true rfl)) dX4_tryLetter_121 ⟨Nat.le_of_ble_eq_true rfl, Nat.le_of_ble_eq_true rfl⟩) hS (fun H locs hP hD hS => ?_)
              have hP : va_P D vwCl (zWT cI cJ h (n, L) ((zkt kt x), (zkm true km x), (zkl true kl x time)) (pt, pm, pl) (nu, le, ow, fo, false, wc, lc, (tr + 1), (cl + 1), tm, 0) ((upd yl co (nI lc)), (upd yc co (nI (cl + 1))), (upd yt co (nI tm)), (co + 1), (zpc pa lc (cl + 1)), (su + lc), (sc + (cl + 1))) mc ++ R) _ := hP
              have hD : va_D (zAb B) (zWT cI cJ h (n, L) ((zkt kt x), (zkm true km x), (zkl true kl x time)) (pt, pm, pl) (nu, le, ow, fo, false, wc, lc, (tr + 1), (cl + 1), tm, 0) ((upd yl co (nI lc)), (upd yc co (nI (cl + 1))), (upd yt co (nI tm)), (co + 1), (zpc pa lc (cl + 1)), (su + lc), (sc + (cl + 1))) mc ++ R) := hD
              exact W.vret hx hb hr (fun t ht hW => ⟨⟨(), rfl, trivial, by rw [ht]; exact hP, hD⟩, hS.F ht⟩) hS.2.2 dX4_tryLetter_124
          · skip
            exfalso; first | omega | (revert c_5; decide) | (exact absurd rfl c_5) | simp_all
    | some o9 =>
      cases fin with
      | true =>
        refine Met.ofW (cc := cX4_tryLetter) (maxL := 5) (ret := none) (by decide) rfl ?_
        intro p e s m args below meth c s₁ B0 hml hv
        obtain ⟨rfl, hP, hD, hK, hE, hB⟩ := hv
        have hx := B0.exec
        have hb := B0.bytes
        have hr := B0.returns
        have hts := atoms_spec (ws := wsX4_tryLetter) B0.pre
        have hown : s.vm.findClass RX4 = some m.cls := findClass_of_methodNamed B0.named
        have hlocks := B0.notSynchronized
        have hA : ∀ q : Nat, s.heap.size ≤ q → zAb B q := fun q hq => Nat.le_trans hB hq
        have hS : va_S (zAb B) s.heap s.heap [] := va_S.rf
        have hl := lv_entry ([.ref (h 0), .int time]) (n := 5) (Nat.le_of_ble_eq_true rfl)
        rw [lg_entry_eq]
        generalize (lg_sl ([.ref (h 0), .int time]) ++ List.replicate (5 - (lg_sl ([.ref (h 0), .int time])).length) Slot.unset).toArray = ls at hl ⊢
        have hl : lv_has ls 5 [(0, .ref (h 0)), (1, .int time)] := hl
        have hinX4 : ∀ w ∈ wsX40, w ∈ wsX4_tryLetter := fun _ h => List.mem_cons_of_mem _ (List.mem_append_left _ (List.mem_append_left _ (List.mem_append_left _ (List.mem_append_right _ h))))
        have hP : va_P D vwCl (zWT cI cJ h (n, L) (kt, km, kl) (pt, pm, pl) (nu, le, ow, fo, run, wc, lc, tr, cl, tm, 0) (yl, yc, yt, co, pa, su, sc) mc ++ R) s.heap := hP
        have hD : va_D (zAb B) (zWT cI cJ h (n, L) (kt, km, kl) (pt, pm, pl) (nu, le, ow, fo, run, wc, lc, tr, cl, tm, 0) (yl, yc, yt, co, pa, su, sc) mc ++ R) := hD
        have hy : y9 < 26 := hoy y9 rfl
        have hf : tr + 1 = lc := hf
        refine lv_aload_n hx hb dX4_tryLetter_0 rfl (lv_at hl 0 rfl) ?_
        refine va_get (ci := 4) (v := .ref (h 11)) (C := RX4) (T := TX4) (N := 6) hx hb hts hinX4 hown hK hP 0 rfl rfl 3 (by decide) (hts (.fieldLink RX4 31 "TypingTutor" "current" "LTypingTutor$Lesson;") (List.mem_of_getElem? (i := 1) rfl)) (fun _ h9 => h9) rfl dX4_tryLetter_1 ?_
        refine zci (zrV (As := []) (rest := []) ⟨hx, hb, hml, hown, hts⟩ (zV 11 hP hD hK hE hB hS rfl rfl) (c_X2_mistakesHere  ) (cwV 0 hts gX4_tryLetter_X2_mistakesHere rfl rfl rfl hdv_X2_mistakesHere ⟨Nat.le_of_ble_eq_true rfl, Nat.le_of_ble_eq_true rfl⟩) rfl rfl hl.1 rfl (lv_room (Nat.le_of_ble_eq_true rfl)) dX4_tryLetter_4 ⟨Nat.le_of_ble_eq_true rfl, Nat.le_of_ble_eq_true rfl⟩) hS (fun H locs hP hD hS => ?_)
        have hP : va_P D vwCl (zWT cI cJ h (n, L) (kt, km, kl) (pt, pm, pl) (nu, le, ow, fo, run, wc, lc, tr, cl, tm, 0) (yl, yc, yt, co, pa, su, sc) mc ++ R) _ := hP
        have hD : va_D (zAb B) (zWT cI cJ h (n, L) (kt, km, kl) (pt, pm, pl) (nu, le, ow, fo, run, wc, lc, tr, cl, tm, 0) (yl, yc, yt, co, pa, su, sc) mc ++ R) := hD
        refine lv_if_ne (tgt := 14) hx hb dX4_tryLetter_7 (by decide) (fun c_7 => ?_) (fun c_7 => ?_)
        · skip
          exfalso; first | omega | (revert c_7; decide) | (exact absurd rfl c_7) | simp_all
        · skip
          refine lv_iconst (v := 1) hx hb dX4_tryLetter_10 (by decide) ?_
          refine lv_goto (tgt := 15) hx hb dX4_tryLetter_11 (by decide) ?_
          refine lv_istore_n (lv' := [(2, .int 1), (0, .ref (h 0)), (1, .int time)]) hx hb dX4_tryLetter_15 rfl hl (by decide) rfl (fun ls hl => ?_)
          refine lv_aload_n hx hb dX4_tryLetter_16 rfl (lv_at hl 1 rfl) ?_
          refine va_get (ci := 4) (v := .ref (h 11)) (C := RX4) (T := TX4) (N := 6) hx hb hts hinX4 hown hK hP 0 rfl rfl 3 (by decide) (hts (.fieldLink RX4 31 "TypingTutor" "current" "LTypingTutor$Lesson;") (List.mem_of_getElem? (i := 1) rfl)) (fun _ h9 => h9) rfl dX4_tryLetter_17 ?_
          refine zci (zrV (As := []) (rest := []) ⟨hx, hb, hml, hown, hts⟩ (zV 11 hP hD hK hE hB hS rfl rfl) (c_X2_letterHere  (by omega)) (cwV 0 hts gX4_tryLetter_X2_letterHere rfl rfl rfl hdv_X2_letterHere ⟨Nat.le_of_ble_eq_true rfl, Nat.le_of_ble_eq_true rfl⟩) rfl rfl hl.1 rfl (lv_room (Nat.le_of_ble_eq_true rfl)) dX4_tryLetter_20 ⟨Nat.le_of_ble_eq_true rfl, Nat.le_of_ble_eq_true rfl⟩) hS (fun H locs hP hD hS => ?_)
          have hP : va_P D vwCl (zWT cI cJ h (n, L) (kt, km, kl) (pt, pm, pl) (nu, le, ow, fo, run, wc, lc, tr, cl, tm, 0) (yl, yc, yt, co, pa, su, sc) mc ++ R) _ := hP
          have hD : va_D (zAb B) (zWT cI cJ h (n, L) (kt, km, kl) (pt, pm, pl) (nu, le, ow, fo, run, wc, lc, tr, cl, tm, 0) (yl, yc, yt, co, pa, su, sc) mc ++ R) := hD
          rw [show (le tr) = (nI x) from hx9]
          refine lv_istore_n (lv' := [(3, .int (nI x)), (2, .int 1), (0, .ref (h 0)), (1, .int time)]) hx hb dX4_tryLetter_23 rfl hl (by decide) rfl (fun ls hl => ?_)
          refine lv_aload_n hx hb dX4_tryLetter_24 rfl (lv_at hl 2 rfl) ?_
          refine va_get (ci := 4) (v := .ref (h 11)) (C := RX4) (T := TX4) (N := 6) hx hb hts hinX4 hown hK hP 0 rfl rfl 3 (by decide) (hts (.fieldLink RX4 31 "TypingTutor" "current" "LTypingTutor$Lesson;") (List.mem_of_getElem? (i := 1) rfl)) (fun _ h9 => h9) rfl dX4_tryLetter_25 ?_
          refine zci (zrV (As := []) (rest := []) ⟨hx, hb, hml, hown, hts⟩ (zV 11 hP hD hK hE hB hS rfl rfl) (c_X2_letterBefore  (by omega) (by omega)) (cwV 0 hts gX4_tryLetter_X2_letterBefore rfl rfl rfl hdv_X2_letterBefore ⟨Nat.le_of_ble_eq_true rfl, Nat.le_of_ble_eq_true rfl⟩) rfl rfl hl.1 rfl (lv_room (Nat.le_of_ble_eq_true rfl)) dX4_tryLetter_28 ⟨Nat.le_of_ble_eq_true rfl, Nat.le_of_ble_eq_true rfl⟩) hS (fun H locs hP hD hS => ?_)
          have hP : va_P D vwCl (zWT cI cJ h (n, L) (kt, km, kl) (pt, pm, pl) (nu, le, ow, fo, run, wc, lc, tr, cl, tm, 0) (yl, yc, yt, co, pa, su, sc) mc ++ R) _ := hP
          have hD : va_D (zAb B) (zWT cI cJ h (n, L) (kt, km, kl) (pt, pm, pl) (nu, le, ow, fo, run, wc, lc, tr, cl, tm, 0) (yl, yc, yt, co, pa, su, sc) mc ++ R) := hD
          rw [show (zis le ow lc tr (nI tr - 1)) = (nI y9) from ho]
          refine lv_istore (lv' := [(4, .int (nI y9)), (3, .int (nI x)), (2, .int 1), (0, .ref (h 0)), (1, .int time)]) hx hb dX4_tryLetter_31 hl (by decide) rfl (fun ls hl => ?_)
          refine lv_aload_n hx hb dX4_tryLetter_33 rfl (lv_at hl 3 rfl) ?_
          refine va_get (ci := 4) (v := .ref (h 3)) (C := RX4) (T := TX4) (N := 6) hx hb hts hinX4 hown hK hP 0 rfl rfl 1 (by decide) (hts (.fieldLink RX4 21 "TypingTutor" "keys" "LTypingTutor$Knowledge;") (List.mem_of_getElem? (i := 2) rfl)) (fun _ h9 => h9) rfl dX4_tryLetter_34 ?_
          refine lv_iload_n hx hb dX4_tryLetter_37 rfl (lv_at hl 1 rfl) ?_
          refine lv_iload_n hx hb dX4_tryLetter_38 rfl (lv_at hl 2 rfl) ?_
          refine lv_iload_n hx hb dX4_tryLetter_39 rfl (lv_at hl 4 rfl) ?_
          refine zcv (zrV (As := [.int (nI x), .int 1, .int time]) (rest := []) ⟨hx, hb, hml, hown, hts⟩ (zV 3 hP hD hK hE hB hS rfl rfl) (c_X1_learn_k (k := x) (b := true) (by omega)) (cwV 3 hts gX4_tryLetter_X1_learn rfl rfl rfl hdv_X1_learn ⟨Nat.le_of_ble_eq_true rfl, Nat.le_of_ble_eq_true rfl⟩) rfl rfl hl.1 rfl (lv_room (Nat.le_of_ble_eq_true rfl)) dX4_tryLetter_40 ⟨Nat.le_of_ble_eq_true rfl, Nat.le_of_ble_eq_true rfl⟩) hS (fun H locs hP hD hS => ?_)
          have hP : va_P D vwCl (zWT cI cJ h (n, L) ((zkt kt x), (zkm true km x), (zkl true kl x time)) (pt, pm, pl) (nu, le, ow, fo, run, wc, lc, tr, cl, tm, 0) (yl, yc, yt, co, pa, su, sc) mc ++ R) _ := hP
          have hD : va_D (zAb B) (zWT cI cJ h (n, L) ((zkt kt x), (zkm true km x), (zkl true kl x time)) (pt, pm, pl) (nu, le, ow, fo, run, wc, lc, tr, cl, tm, 0) (yl, yc, yt, co, pa, su, sc) mc ++ R) := hD
          refine lv_iload hx hb dX4_tryLetter_43 (lv_at hl 0 rfl) ?_
          refine lv_iconst (v := (-1)) hx hb dX4_tryLetter_45 (by decide) ?_
          refine lv_icmp_eq (tgt := 64) hx hb dX4_tryLetter_46 (by decide) (fun c_8 => ?_) (fun c_8 => ?_)
          · skip
            exact absurd c_8 (nI_m1 (by omega))
          · skip
            refine lv_aload_n hx hb dX4_tryLetter_49 rfl (lv_at hl 3 rfl) ?_
            refine va_get (ci := 4) (v := .ref (h 7)) (C := RX4) (T := TX4) (N := 6) hx hb hts hinX4 hown hK hP 0 rfl rfl 2 (by decide) (hts (.fieldLink RX4 25 "TypingTutor" "pairs" "LTypingTutor$Knowledge;") (List.mem_of_getElem? (i := 3) rfl)) (fun _ h9 => h9) rfl dX4_tryLetter_50 ?_
            refine lv_iload hx hb dX4_tryLetter_53 (lv_at hl 0 rfl) ?_
            refine lv_iload_n hx hb dX4_tryLetter_55 rfl (lv_at hl 1 rfl) ?_
            refine zci (zrS (As := [.int (nI y9), .int (nI x)]) (rest := [.ref (h 7)]) ⟨hx, hb, hml, hown, hts⟩ (zS hP hD hK hE hB hS) (c_X4_pairOf  ) (va_cwS 2 hts gX4_tryLetter_X4_pairOf rfl rfl rfl hds_X4_pairOf ⟨Nat.le_of_ble_eq_true rfl, Nat.le_of_ble_eq_true rfl⟩) rfl rfl hl.1 rfl (lv_room (Nat.le_of_ble_eq_true rfl)) dX4_tryLetter_56 ⟨Nat.le_of_ble_eq_true rfl, Nat.le_of_ble_eq_true rfl⟩) hS (fun H locs hP hD hS => ?_)
            have hP : va_P D vwCl (zWT cI cJ h (n, L) ((zkt kt x), (zkm true km x), (zkl true kl x time)) (pt, pm, pl) (nu, le, ow, fo, run, wc, lc, tr, cl, tm, 0) (yl, yc, yt, co, pa, su, sc) mc ++ R) _ := hP
            have hD : va_D (zAb B) (zWT cI cJ h (n, L) ((zkt kt x), (zkm true km x), (zkl true kl x time)) (pt, pm, pl) (nu, le, ow, fo, run, wc, lc, tr, cl, tm, 0) (yl, yc, yt, co, pa, su, sc) mc ++ R) := hD
            rw [show (26 * (nI y9) + (nI x)) = (nI (26 * y9 + x)) from (by rw [show (26 : Int32) = nI 26 from rfl, pk_mul, nI_add])]
            refine lv_iload_n hx hb dX4_tryLetter_59 rfl (lv_at hl 2 rfl) ?_
            refine lv_iload_n hx hb dX4_tryLetter_60 rfl (lv_at hl 4 rfl) ?_
            refine zcv (zrV (As := [.int (nI (26 * y9 + x)), .int 1, .int time]) (rest := []) ⟨hx, hb, hml, hown, hts⟩ (zV 7 hP hD hK hE hB hS rfl rfl) (c_X1_learn_p (k := (26 * y9 + x)) (b := true) (by omega)) (cwV 3 hts gX4_tryLetter_X1_learn rfl rfl rfl hdv_X1_learn ⟨Nat.le_of_ble_eq_true rfl, Nat.le_of_ble_eq_true rfl⟩) rfl rfl hl.1 rfl (lv_room (Nat.le_of_ble_eq_true rfl)) dX4_tryLetter_61 ⟨Nat.le_of_ble_eq_true rfl, Nat.le_of_ble_eq_true rfl⟩) hS (fun H locs hP hD hS => ?_)
            have hP : va_P D vwCl (zWT cI cJ h (n, L) ((zkt kt x), (zkm true km x), (zkl true kl x time)) ((zkt pt (26 * y9 + x)), (zkm true pm (26 * y9 + x)), (zkl true pl (26 * y9 + x) time)) (nu, le, ow, fo, run, wc, lc, tr, cl, tm, 0) (yl, yc, yt, co, pa, su, sc) mc ++ R) _ := hP
            have hD : va_D (zAb B) (zWT cI cJ h (n, L) ((zkt kt x), (zkm true km x), (zkl true kl x time)) ((zkt pt (26 * y9 + x)), (zkm true pm (26 * y9 + x)), (zkl true pl (26 * y9 + x) time)) (nu, le, ow, fo, run, wc, lc, tr, cl, tm, 0) (yl, yc, yt, co, pa, su, sc) mc ++ R) := hD
            refine lv_aload_n hx hb dX4_tryLetter_64 rfl (lv_at hl 3 rfl) ?_
            refine va_get (ci := 4) (v := .ref (h 11)) (C := RX4) (T := TX4) (N := 6) hx hb hts hinX4 hown hK hP 0 rfl rfl 3 (by decide) (hts (.fieldLink RX4 31 "TypingTutor" "current" "LTypingTutor$Lesson;") (List.mem_of_getElem? (i := 1) rfl)) (fun _ h9 => h9) rfl dX4_tryLetter_65 ?_
            refine lv_iload_n hx hb dX4_tryLetter_68 rfl (lv_at hl 2 rfl) ?_
            refine zcv (zrV (As := [.int 1]) (rest := []) ⟨hx, hb, hml, hown, hts⟩ (zV 11 hP hD hK hE hB hS rfl rfl) (c_X2_goOn_1  ) (cwV 1 hts gX4_tryLetter_X2_goOn rfl rfl rfl hdv_X2_goOn ⟨Nat.le_of_ble_eq_true rfl, Nat.le_of_ble_eq_true rfl⟩) rfl rfl hl.1 rfl (lv_room (Nat.le_of_ble_eq_true rfl)) dX4_tryLetter_69 ⟨Nat.le_of_ble_eq_true rfl, Nat.le_of_ble_eq_true rfl⟩) hS (fun H locs hP hD hS => ?_)
            have hP : va_P D vwCl (zWT cI cJ h (n, L) ((zkt kt x), (zkm true km x), (zkl true kl x time)) ((zkt pt (26 * y9 + x)), (zkm true pm (26 * y9 + x)), (zkl true pl (26 * y9 + x) time)) (nu, le, ow, fo, run, wc, lc, (tr + 1), (cl + 1), tm, 0) (yl, yc, yt, co, pa, su, sc) mc ++ R) _ := hP
            have hD : va_D (zAb B) (zWT cI cJ h (n, L) ((zkt kt x), (zkm true km x), (zkl true kl x time)) ((zkt pt (26 * y9 + x)), (zkm true pm (26 * y9 + x)), (zkl true pl (26 * y9 + x) time)) (nu, le, ow, fo, run, wc, lc, (tr + 1), (cl + 1), tm, 0) (yl, yc, yt, co, pa, su, sc) mc ++ R) := hD
            refine lv_aload_n hx hb dX4_tryLetter_72 rfl (lv_at hl 3 rfl) ?_
            refine va_get (ci := 4) (v := .ref (h 11)) (C := RX4) (T := TX4) (N := 6) hx hb hts hinX4 hown hK hP 0 rfl rfl 3 (by decide) (hts (.fieldLink RX4 31 "TypingTutor" "current" "LTypingTutor$Lesson;") (List.mem_of_getElem? (i := 1) rfl)) (fun _ h9 => h9) rfl dX4_tryLetter_73 ?_
            refine zci (zrV (As := []) (rest := []) ⟨hx, hb, hml, hown, hts⟩ (zV 11 hP hD hK hE hB hS rfl rfl) (c_X2_triedTotal  ) (cwV 0 hts gX4_tryLetter_X2_triedTotal rfl rfl rfl hdv_X2_triedTotal ⟨Nat.le_of_ble_eq_true rfl, Nat.le_of_ble_eq_true rfl⟩) rfl rfl hl.1 rfl (lv_room (Nat.le_of_ble_eq_true rfl)) dX4_tryLetter_76 ⟨Nat.le_of_ble_eq_true rfl, Nat.le_of_ble_eq_true rfl⟩) hS (fun H locs hP hD hS => ?_)
            have hP : va_P D vwCl (zWT cI cJ h (n, L) ((zkt kt x), (zkm true km x), (zkl true kl x time)) ((zkt pt (26 * y9 + x)), (zkm true pm (26 * y9 + x)), (zkl true pl (26 * y9 + x) time)) (nu, le, ow, fo, run, wc, lc, (tr + 1), (cl + 1), tm, 0) (yl, yc, yt, co, pa, su, sc) mc ++ R) _ := hP
            have hD : va_D (zAb B) (zWT cI cJ h (n, L) ((zkt kt x), (zkm true km x), (zkl true kl x time)) ((zkt pt (26 * y9 + x)), (zkm true pm (26 * y9 + x)), (zkl true pl (26 * y9 + x) time)) (nu, le, ow, fo, run, wc, lc, (tr + 1), (cl + 1), tm, 0) (yl, yc, yt, co, pa, su, sc) mc ++ R) := hD
            refine lv_aload_n hx hb dX4_tryLetter_79 rfl (lv_at hl 3 rfl) ?_
            refine va_get (ci := 4) (v := .ref (h 11)) (C := RX4) (T := TX4) (N := 6) hx hb hts hinX4 hown hK hP 0 rfl rfl 3 (by decide) (hts (.fieldLink RX4 31 "TypingTutor" "current" "LTypingTutor$Lesson;") (List.mem_of_getElem? (i := 1) rfl)) (fun _ h9 => h9) rfl dX4_tryLetter_80 ?_
            refine zci (zrV (As := []) (rest := [.int (nI (tr + 1))]) ⟨hx, hb, hml, hown, hts⟩ (zV 11 hP hD hK hE hB hS rfl rfl) (c_X2_letterTotal  ) (cwV 0 hts gX4_tryLetter_X2_letterTotal rfl rfl rfl hdv_X2_letterTotal ⟨Nat.le_of_ble_eq_true rfl, Nat.le_of_ble_eq_true rfl⟩) rfl rfl hl.1 rfl (lv_room (Nat.le_of_ble_eq_true rfl)) dX4_tryLetter_83 ⟨Nat.le_of_ble_eq_true rfl, Nat.le_of_ble_eq_true rfl⟩) hS (fun H locs hP hD hS => ?_)
            have hP : va_P D vwCl (zWT cI cJ h (n, L) ((zkt kt x), (zkm true km x), (zkl true kl x time)) ((zkt pt (26 * y9 + x)), (zkm true pm (26 * y9 + x)), (zkl true pl (26 * y9 + x) time)) (nu, le, ow, fo, run, wc, lc, (tr + 1), (cl + 1), tm, 0) (yl, yc, yt, co, pa, su, sc) mc ++ R) _ := hP
            have hD : va_D (zAb B) (zWT cI cJ h (n, L) ((zkt kt x), (zkm true km x), (zkl true kl x time)) ((zkt pt (26 * y9 + x)), (zkm true pm (26 * y9 + x)), (zkl true pl (26 * y9 + x) time)) (nu, le, ow, fo, run, wc, lc, (tr + 1), (cl + 1), tm, 0) (yl, yc, yt, co, pa, su, sc) mc ++ R) := hD
            refine lv_icmp_lt (tgt := 124) hx hb dX4_tryLetter_86 (by decide) (fun c_9 => ?_) (fun c_9 => ?_)
            · skip
              have c_9 : (tr + 1) < lc := (nI_ltI (a := (tr + 1)) (b := lc) (by omega) (by omega)).mp c_9
              exact W.vret hx hb hr (fun t ht hW => ⟨⟨(), rfl, trivial, by rw [ht]; exact hP, hD⟩, hS.F ht⟩) hS.2.2 dX4_tryLetter_124
            · skip
              have c_9 : ¬ (tr + 1) < lc := fun hh => c_9 ((nI_ltI (a := (tr + 1)) (b := lc) (by omega) (by omega)).mpr hh)
              refine lv_aload_n hx hb dX4_tryLetter_89 rfl (lv_at hl 3 rfl) ?_
              refine va_get (ci := 4) (v := .ref (h 11)) (C := RX4) (T := TX4) (N := 6) hx hb hts hinX4 hown hK hP 0 rfl rfl 3 (by decide) (hts (.fieldLink RX4 31 "TypingTutor" "current" "LTypingTutor$Lesson;") (List.mem_of_getElem? (i := 1) rfl)) (fun _ h9 => h9) rfl dX4_tryLetter_90 ?_
              refine zcv (zrV (As := []) (rest := []) ⟨hx, hb, hml, hown, hts⟩ (zV 11 hP hD hK hE hB hS rfl rfl) (c_X2_stop  ) (cwV 0 hts gX4_tryLetter_X2_stop rfl rfl rfl hdv_X2_stop ⟨Nat.le_of_ble_eq_true rfl, Nat.le_of_ble_eq_true rfl⟩) rfl rfl hl.1 rfl (lv_room (Nat.le_of_ble_eq_true rfl)) dX4_tryLetter_93 ⟨Nat.le_of_ble_eq_true rfl, Nat.le_of_ble_eq_true rfl⟩) hS (fun H locs hP hD hS => ?_)
              have hP : va_P D vwCl (zWT cI cJ h (n, L) ((zkt kt x), (zkm true km x), (zkl true kl x time)) ((zkt pt (26 * y9 + x)), (zkm true pm (26 * y9 + x)), (zkl true pl (26 * y9 + x) time)) (nu, le, ow, fo, false, wc, lc, (tr + 1), (cl + 1), tm, 0) (yl, yc, yt, co, pa, su, sc) mc ++ R) _ := hP
              have hD : va_D (zAb B) (zWT cI cJ h (n, L) ((zkt kt x), (zkm true km x), (zkl true kl x time)) ((zkt pt (26 * y9 + x)), (zkm true pm (26 * y9 + x)), (zkl true pl (26 * y9 + x) time)) (nu, le, ow, fo, false, wc, lc, (tr + 1), (cl + 1), tm, 0) (yl, yc, yt, co, pa, su, sc) mc ++ R) := hD
              refine lv_aload_n hx hb dX4_tryLetter_96 rfl (lv_at hl 3 rfl) ?_
              refine va_get (ci := 4) (v := .ref (h 16)) (C := RX4) (T := TX4) (N := 6) hx hb hts hinX4 hown hK hP 0 rfl rfl 4 (by decide) (hts (.fieldLink RX4 38 "TypingTutor" "past" "LTypingTutor$History;") (List.mem_of_getElem? (i := 4) rfl)) (fun _ h9 => h9) rfl dX4_tryLetter_97 ?_
              refine lv_aload_n hx hb dX4_tryLetter_100 rfl (lv_at hl 3 rfl) ?_
              refine va_get (ci := 4) (v := .ref (h 11)) (C := RX4) (T := TX4) (N := 6) hx hb hts hinX4 hown hK hP 0 rfl rfl 3 (by decide) (hts (.fieldLink RX4 31 "TypingTutor" "current" "LTypingTutor$Lesson;") (List.mem_of_getElem? (i := 1) rfl)) (fun _ h9 => h9) rfl dX4_tryLetter_101 ?_
              refine zci (zrV (As := []) (rest := [.ref (h 16)]) ⟨hx, hb, hml, hown, hts⟩ (zV 11 hP hD hK hE hB hS rfl rfl) (c_X2_letterTotal  ) (cwV 0 hts gX4_tryLetter_X2_letterTotal rfl rfl rfl hdv_X2_letterTotal ⟨Nat.le_of_ble_eq_true rfl, Nat.le_of_ble_eq_true rfl⟩) rfl rfl hl.1 rfl (lv_room (Nat.le_of_ble_eq_true rfl)) dX4_tryLetter_104 ⟨Nat.le_of_ble_eq_true rfl, Nat.le_of_ble_eq_true rfl⟩) hS (fun H locs hP hD hS => ?_)
              have hP : va_P D vwCl (zWT cI cJ h (n, L) ((zkt kt x), (zkm true km x), (zkl true kl x time)) ((zkt pt (26 * y9 + x)), (zkm true pm (26 * y9 + x)), (zkl true pl (26 * y9 + x) time)) (nu, le, ow, fo, false, wc, lc, (tr + 1), (cl + 1), tm, 0) (yl, yc, yt, co, pa, su, sc) mc ++ R) _ := hP
              have hD : va_D (zAb B) (zWT cI cJ h (n, L) ((zkt kt x), (zkm true km x), (zkl true kl x time)) ((zkt pt (26 * y9 + x)), (zkm true pm (26 * y9 + x)), (zkl true pl (26 * y9 + x) time)) (nu, le, ow, fo, false, wc, lc, (tr + 1), (cl + 1), tm, 0) (yl, yc, yt, co, pa, su, sc) mc ++ R) := hD
              refine lv_aload_n hx hb dX4_tryLetter_107 rfl (lv_at hl 3 rfl) ?_
              refine va_get (ci := 4) (v := .ref (h 11)) (C := RX4) (T := TX4) (N := 6) hx hb hts hinX4 hown hK hP 0 rfl rfl 3 (by decide) (hts (.fieldLink RX4 31 "TypingTutor" "current" "LTypingTutor$Lesson;") (List.mem_of_getElem? (i := 1) rfl)) (fun _ h9 => h9) rfl dX4_tryLetter_108 ?_
              refine zci (zrV (As := []) (rest := [.int (nI lc), .ref (h 16)]) ⟨hx, hb, hml, hown, hts⟩ (zV 11 hP hD hK hE hB hS rfl rfl) (c_X2_cleanTotal  ) (cwV 0 hts gX4_tryLetter_X2_cleanTotal rfl rfl rfl hdv_X2_cleanTotal ⟨Nat.le_of_ble_eq_true rfl, Nat.le_of_ble_eq_true rfl⟩) rfl rfl hl.1 rfl (lv_room (Nat.le_of_ble_eq_true rfl)) dX4_tryLetter_111 ⟨Nat.le_of_ble_eq_true rfl, Nat.le_of_ble_eq_true rfl⟩) hS (fun H locs hP hD hS => ?_)
              have hP : va_P D vwCl (zWT cI cJ h (n, L) ((zkt kt x), (zkm true km x), (zkl true kl x time)) ((zkt pt (26 * y9 + x)), (zkm true pm (26 * y9 + x)), (zkl true pl (26 * y9 + x) time)) (nu, le, ow, fo, false, wc, lc, (tr + 1), (cl + 1), tm, 0) (yl, yc, yt, co, pa, su, sc) mc ++ R) _ := hP
              have hD : va_D (zAb B) (zWT cI cJ h (n, L) ((zkt kt x), (zkm true km x), (zkl true kl x time)) ((zkt pt (26 * y9 + x)), (zkm true pm (26 * y9 + x)), (zkl true pl (26 * y9 + x) time)) (nu, le, ow, fo, false, wc, lc, (tr + 1), (cl + 1), tm, 0) (yl, yc, yt, co, pa, su, sc) mc ++ R) := hD
              refine lv_aload_n hx hb dX4_tryLetter_114 rfl (lv_at hl 3 rfl) ?_
              refine va_get (ci := 4) (v := .ref (h 11)) (C := RX4) (T := TX4) (N := 6) hx hb hts hinX4 hown hK hP 0 rfl rfl 3 (by decide) (hts (.fieldLink RX4 31 "TypingTutor" "current" "LTypingTutor$Lesson;") (List.mem_of_getElem? (i := 1) rfl)) (fun _ h9 => h9) rfl dX4_tryLetter_115 ?_
              refine zci (zrV (As := []) (rest := [.int (nI (cl + 1)), .int (nI lc), .ref (h 16)]) ⟨hx, hb, hml, hown, hts⟩ (zV 11 hP hD hK hE hB hS rfl rfl) (c_X2_timeSum  ) (cwV 0 hts gX4_tryLetter_X2_timeSum rfl rfl rfl hdv_X2_timeSum ⟨Nat.le_of_ble_eq_true rfl, Nat.le_of_ble_eq_true rfl⟩) rfl rfl hl.1 rfl (lv_room (Nat.le_of_ble_eq_true rfl)) dX4_tryLetter_118 ⟨Nat.le_of_ble_eq_true rfl, Nat.le_of_ble_eq_true rfl⟩) hS (fun H locs hP hD hS => ?_)
              have hP : va_P D vwCl (zWT cI cJ h (n, L) ((zkt kt x), (zkm true km x), (zkl true kl x time)) ((zkt pt (26 * y9 + x)), (zkm true pm (26 * y9 + x)), (zkl true pl (26 * y9 + x) time)) (nu, le, ow, fo, false, wc, lc, (tr + 1), (cl + 1), tm, 0) (yl, yc, yt, co, pa, su, sc) mc ++ R) _ := hP
              have hD : va_D (zAb B) (zWT cI cJ h (n, L) ((zkt kt x), (zkm true km x), (zkl true kl x time)) ((zkt pt (26 * y9 + x)), (zkm true pm (26 * y9 + x)), (zkl true pl (26 * y9 + x) time)) (nu, le, ow, fo, false, wc, lc, (tr + 1), (cl + 1), tm, 0) (yl, yc, yt, co, pa, su, sc) mc ++ R) := hD
              refine zcv (zrV (As := [.int (nI lc), .int (nI (cl + 1)), .int (nI tm)]) (rest := []) ⟨hx, hb, hml, hown, hts⟩ (zV 16 hP hD hK hE hB hS rfl rfl) (c_X0_keep (lt := lc) (ct := (cl + 1)) (ts := tm) (by omega) (by omega) (by omega)) (cwV 3 hts gX4_tryLetter_X0_keep rfl rfl rfl hdv_X0_keep ⟨Nat.le_of_ble_eq_true rfl, Nat.le_of_ble_eq_true rfl⟩) rfl rfl hl.1 rfl (lv_room (Nat.le_of_ble_eq_true rfl)) dX4_tryLetter_121 ⟨Nat.le_of_ble_eq_true rfl, Nat.le_of_ble_eq_true rfl⟩) hS (fun H locs hP hD hS => ?_)
              have hP : va_P D vwCl (zWT cI cJ h (n, L) ((zkt kt x), (zkm true km x), (zkl true kl x time)) ((zkt pt (26 * y9 + x)), (zkm true pm (26 * y9 + x)), (zkl true pl (26 * y9 + x) time)) (nu, le, ow, fo, false, wc, lc, (tr + 1), (cl + 1), tm, 0) ((upd yl co (nI lc)), (upd yc co (nI (cl + 1))), (upd yt co (nI tm)), (co + 1), (zpc pa lc (cl + 1)), (su + lc), (sc + (cl + 1))) mc ++ R) _ := hP
              have hD : va_D (zAb B) (zWT cI cJ h (n, L) ((zkt kt x), (zkm true km x), (zkl true kl x time)) ((zkt pt (26 * y9 + x)), (zkm true pm (26 * y9 + x)), (zkl true pl (26 * y9 + x) time)) (nu, le, ow, fo, false, wc, lc, (tr + 1), (cl + 1), tm, 0) ((upd yl co (nI lc)), (upd yc co (nI (cl + 1))), (upd yt co (nI tm)), (co + 1), (zpc pa lc (cl + 1)), (su + lc), (sc + (cl + 1))) mc ++ R) := hD
              exact W.vret hx hb hr (fun t ht hW => ⟨⟨(), rfl, trivial, by rw [ht]; exact hP, hD⟩, hS.F ht⟩) hS.2.2 dX4_tryLetter_124
      | false =>
        refine Met.ofW (cc := cX4_tryLetter) (maxL := 5) (ret := none) (by decide) rfl ?_
        intro p e s m args below meth c s₁ B0 hml hv
        obtain ⟨rfl, hP, hD, hK, hE, hB⟩ := hv
        have hx := B0.exec
        have hb := B0.bytes
        have hr := B0.returns
        have hts := atoms_spec (ws := wsX4_tryLetter) B0.pre
        have hown : s.vm.findClass RX4 = some m.cls := findClass_of_methodNamed B0.named
        have hlocks := B0.notSynchronized
        have hA : ∀ q : Nat, s.heap.size ≤ q → zAb B q := fun q hq => Nat.le_trans hB hq
        have hS : va_S (zAb B) s.heap s.heap [] := va_S.rf
        have hl := lv_entry ([.ref (h 0), .int time]) (n := 5) (Nat.le_of_ble_eq_true rfl)
        rw [lg_entry_eq]
        generalize (lg_sl ([.ref (h 0), .int time]) ++ List.replicate (5 - (lg_sl ([.ref (h 0), .int time])).length) Slot.unset).toArray = ls at hl ⊢
        have hl : lv_has ls 5 [(0, .ref (h 0)), (1, .int time)] := hl
        have hinX4 : ∀ w ∈ wsX40, w ∈ wsX4_tryLetter := fun _ h => List.mem_cons_of_mem _ (List.mem_append_left _ (List.mem_append_left _ (List.mem_append_left _ (List.mem_append_right _ h))))
        have hP : va_P D vwCl (zWT cI cJ h (n, L) (kt, km, kl) (pt, pm, pl) (nu, le, ow, fo, run, wc, lc, tr, cl, tm, 0) (yl, yc, yt, co, pa, su, sc) mc ++ R) s.heap := hP
        have hD : va_D (zAb B) (zWT cI cJ h (n, L) (kt, km, kl) (pt, pm, pl) (nu, le, ow, fo, run, wc, lc, tr, cl, tm, 0) (yl, yc, yt, co, pa, su, sc) mc ++ R) := hD
        have hy : y9 < 26 := hoy y9 rfl
        have hf : tr + 1 < lc := hf
        refine lv_aload_n hx hb dX4_tryLetter_0 rfl (lv_at hl 0 rfl) ?_
        refine va_get (ci := 4) (v := .ref (h 11)) (C := RX4) (T := TX4) (N := 6) hx hb hts hinX4 hown hK hP 0 rfl rfl 3 (by decide) (hts (.fieldLink RX4 31 "TypingTutor" "current" "LTypingTutor$Lesson;") (List.mem_of_getElem? (i := 1) rfl)) (fun _ h9 => h9) rfl dX4_tryLetter_1 ?_
        refine zci (zrV (As := []) (rest := []) ⟨hx, hb, hml, hown, hts⟩ (zV 11 hP hD hK hE hB hS rfl rfl) (c_X2_mistakesHere  ) (cwV 0 hts gX4_tryLetter_X2_mistakesHere rfl rfl rfl hdv_X2_mistakesHere ⟨Nat.le_of_ble_eq_true rfl, Nat.le_of_ble_eq_true rfl⟩) rfl rfl hl.1 rfl (lv_room (Nat.le_of_ble_eq_true rfl)) dX4_tryLetter_4 ⟨Nat.le_of_ble_eq_true rfl, Nat.le_of_ble_eq_true rfl⟩) hS (fun H locs hP hD hS => ?_)
        have hP : va_P D vwCl (zWT cI cJ h (n, L) (kt, km, kl) (pt, pm, pl) (nu, le, ow, fo, run, wc, lc, tr, cl, tm, 0) (yl, yc, yt, co, pa, su, sc) mc ++ R) _ := hP
        have hD : va_D (zAb B) (zWT cI cJ h (n, L) (kt, km, kl) (pt, pm, pl) (nu, le, ow, fo, run, wc, lc, tr, cl, tm, 0) (yl, yc, yt, co, pa, su, sc) mc ++ R) := hD
        refine lv_if_ne (tgt := 14) hx hb dX4_tryLetter_7 (by decide) (fun c_10 => ?_) (fun c_10 => ?_)
        · skip
          exfalso; first | omega | (revert c_10; decide) | (exact absurd rfl c_10) | simp_all
        · skip
          refine lv_iconst (v := 1) hx hb dX4_tryLetter_10 (by decide) ?_
          refine lv_goto (tgt := 15) hx hb dX4_tryLetter_11 (by decide) ?_
          refine lv_istore_n (lv' := [(2, .int 1), (0, .ref (h 0)), (1, .int time)]) hx hb dX4_tryLetter_15 rfl hl (by decide) rfl (fun ls hl => ?_)
          refine lv_aload_n hx hb dX4_tryLetter_16 rfl (lv_at hl 1 rfl) ?_
          refine va_get (ci := 4) (v := .ref (h 11)) (C := RX4) (T := TX4) (N := 6) hx hb hts hinX4 hown hK hP 0 rfl rfl 3 (by decide) (hts (.fieldLink RX4 31 "TypingTutor" "current" "LTypingTutor$Lesson;") (List.mem_of_getElem? (i := 1) rfl)) (fun _ h9 => h9) rfl dX4_tryLetter_17 ?_
          refine zci (zrV (As := []) (rest := []) ⟨hx, hb, hml, hown, hts⟩ (zV 11 hP hD hK hE hB hS rfl rfl) (c_X2_letterHere  (by omega)) (cwV 0 hts gX4_tryLetter_X2_letterHere rfl rfl rfl hdv_X2_letterHere ⟨Nat.le_of_ble_eq_true rfl, Nat.le_of_ble_eq_true rfl⟩) rfl rfl hl.1 rfl (lv_room (Nat.le_of_ble_eq_true rfl)) dX4_tryLetter_20 ⟨Nat.le_of_ble_eq_true rfl, Nat.le_of_ble_eq_true rfl⟩) hS (fun H locs hP hD hS => ?_)
          have hP : va_P D vwCl (zWT cI cJ h (n, L) (kt, km, kl) (pt, pm, pl) (nu, le, ow, fo, run, wc, lc, tr, cl, tm, 0) (yl, yc, yt, co, pa, su, sc) mc ++ R) _ := hP
          have hD : va_D (zAb B) (zWT cI cJ h (n, L) (kt, km, kl) (pt, pm, pl) (nu, le, ow, fo, run, wc, lc, tr, cl, tm, 0) (yl, yc, yt, co, pa, su, sc) mc ++ R) := hD
          rw [show (le tr) = (nI x) from hx9]
          refine lv_istore_n (lv' := [(3, .int (nI x)), (2, .int 1), (0, .ref (h 0)), (1, .int time)]) hx hb dX4_tryLetter_23 rfl hl (by decide) rfl (fun ls hl => ?_)
          refine lv_aload_n hx hb dX4_tryLetter_24 rfl (lv_at hl 2 rfl) ?_
          refine va_get (ci := 4) (v := .ref (h 11)) (C := RX4) (T := TX4) (N := 6) hx hb hts hinX4 hown hK hP 0 rfl rfl 3 (by decide) (hts (.fieldLink RX4 31 "TypingTutor" "current" "LTypingTutor$Lesson;") (List.mem_of_getElem? (i := 1) rfl)) (fun _ h9 => h9) rfl dX4_tryLetter_25 ?_
          refine zci (zrV (As := []) (rest := []) ⟨hx, hb, hml, hown, hts⟩ (zV 11 hP hD hK hE hB hS rfl rfl) (c_X2_letterBefore  (by omega) (by omega)) (cwV 0 hts gX4_tryLetter_X2_letterBefore rfl rfl rfl hdv_X2_letterBefore ⟨Nat.le_of_ble_eq_true rfl, Nat.le_of_ble_eq_true rfl⟩) rfl rfl hl.1 rfl (lv_room (Nat.le_of_ble_eq_true rfl)) dX4_tryLetter_28 ⟨Nat.le_of_ble_eq_true rfl, Nat.le_of_ble_eq_true rfl⟩) hS (fun H locs hP hD hS => ?_)
          have hP : va_P D vwCl (zWT cI cJ h (n, L) (kt, km, kl) (pt, pm, pl) (nu, le, ow, fo, run, wc, lc, tr, cl, tm, 0) (yl, yc, yt, co, pa, su, sc) mc ++ R) _ := hP
          have hD : va_D (zAb B) (zWT cI cJ h (n, L) (kt, km, kl) (pt, pm, pl) (nu, le, ow, fo, run, wc, lc, tr, cl, tm, 0) (yl, yc, yt, co, pa, su, sc) mc ++ R) := hD
          rw [show (zis le ow lc tr (nI tr - 1)) = (nI y9) from ho]
          refine lv_istore (lv' := [(4, .int (nI y9)), (3, .int (nI x)), (2, .int 1), (0, .ref (h 0)), (1, .int time)]) hx hb dX4_tryLetter_31 hl (by decide) rfl (fun ls hl => ?_)
          refine lv_aload_n hx hb dX4_tryLetter_33 rfl (lv_at hl 3 rfl) ?_
          refine va_get (ci := 4) (v := .ref (h 3)) (C := RX4) (T := TX4) (N := 6) hx hb hts hinX4 hown hK hP 0 rfl rfl 1 (by decide) (hts (.fieldLink RX4 21 "TypingTutor" "keys" "LTypingTutor$Knowledge;") (List.mem_of_getElem? (i := 2) rfl)) (fun _ h9 => h9) rfl dX4_tryLetter_34 ?_
          refine lv_iload_n hx hb dX4_tryLetter_37 rfl (lv_at hl 1 rfl) ?_
          refine lv_iload_n hx hb dX4_tryLetter_38 rfl (lv_at hl 2 rfl) ?_
          refine lv_iload_n hx hb dX4_tryLetter_39 rfl (lv_at hl 4 rfl) ?_
          refine zcv (zrV (As := [.int (nI x), .int 1, .int time]) (rest := []) ⟨hx, hb, hml, hown, hts⟩ (zV 3 hP hD hK hE hB hS rfl rfl) (c_X1_learn_k (k := x) (b := true) (by omega)) (cwV 3 hts gX4_tryLetter_X1_learn rfl rfl rfl hdv_X1_learn ⟨Nat.le_of_ble_eq_true rfl, Nat.le_of_ble_eq_true rfl⟩) rfl rfl hl.1 rfl (lv_room (Nat.le_of_ble_eq_true rfl)) dX4_tryLetter_40 ⟨Nat.le_of_ble_eq_true rfl, Nat.le_of_ble_eq_true rfl⟩) hS (fun H locs hP hD hS => ?_)
          have hP : va_P D vwCl (zWT cI cJ h (n, L) ((zkt kt x), (zkm true km x), (zkl true kl x time)) (pt, pm, pl) (nu, le, ow, fo, run, wc, lc, tr, cl, tm, 0) (yl, yc, yt, co, pa, su, sc) mc ++ R) _ := hP
          have hD : va_D (zAb B) (zWT cI cJ h (n, L) ((zkt kt x), (zkm true km x), (zkl true kl x time)) (pt, pm, pl) (nu, le, ow, fo, run, wc, lc, tr, cl, tm, 0) (yl, yc, yt, co, pa, su, sc) mc ++ R) := hD
          refine lv_iload hx hb dX4_tryLetter_43 (lv_at hl 0 rfl) ?_
          refine lv_iconst (v := (-1)) hx hb dX4_tryLetter_45 (by decide) ?_
          refine lv_icmp_eq (tgt := 64) hx hb dX4_tryLetter_46 (by decide) (fun c_11 => ?_) (fun c_11 => ?_)
          · skip
            exact absurd c_11 (nI_m1 (by omega))
          · skip
            refine lv_aload_n hx hb dX4_tryLetter_49 rfl (lv_at hl 3 rfl) ?_
            refine va_get (ci := 4) (v := .ref (h 7)) (C := RX4) (T := TX4) (N := 6) hx hb hts hinX4 hown hK hP 0 rfl rfl 2 (by decide) (hts (.fieldLink RX4 25 "TypingTutor" "pairs" "LTypingTutor$Knowledge;") (List.mem_of_getElem? (i := 3) rfl)) (fun _ h9 => h9) rfl dX4_tryLetter_50 ?_
            refine lv_iload hx hb dX4_tryLetter_53 (lv_at hl 0 rfl) ?_
            refine lv_iload_n hx hb dX4_tryLetter_55 rfl (lv_at hl 1 rfl) ?_
            refine zci (zrS (As := [.int (nI y9), .int (nI x)]) (rest := [.ref (h 7)]) ⟨hx, hb, hml, hown, hts⟩ (zS hP hD hK hE hB hS) (c_X4_pairOf  ) (va_cwS 2 hts gX4_tryLetter_X4_pairOf rfl rfl rfl hds_X4_pairOf ⟨Nat.le_of_ble_eq_true rfl, Nat.le_of_ble_eq_true rfl⟩) rfl rfl hl.1 rfl (lv_room (Nat.le_of_ble_eq_true rfl)) dX4_tryLetter_56 ⟨Nat.le_of_ble_eq_true rfl, Nat.le_of_ble_eq_true rfl⟩) hS (fun H locs hP hD hS => ?_)
            have hP : va_P D vwCl (zWT cI cJ h (n, L) ((zkt kt x), (zkm true km x), (zkl true kl x time)) (pt, pm, pl) (nu, le, ow, fo, run, wc, lc, tr, cl, tm, 0) (yl, yc, yt, co, pa, su, sc) mc ++ R) _ := hP
            have hD : va_D (zAb B) (zWT cI cJ h (n, L) ((zkt kt x), (zkm true km x), (zkl true kl x time)) (pt, pm, pl) (nu, le, ow, fo, run, wc, lc, tr, cl, tm, 0) (yl, yc, yt, co, pa, su, sc) mc ++ R) := hD
            rw [show (26 * (nI y9) + (nI x)) = (nI (26 * y9 + x)) from (by rw [show (26 : Int32) = nI 26 from rfl, pk_mul, nI_add])]
            refine lv_iload_n hx hb dX4_tryLetter_59 rfl (lv_at hl 2 rfl) ?_
            refine lv_iload_n hx hb dX4_tryLetter_60 rfl (lv_at hl 4 rfl) ?_
            refine zcv (zrV (As := [.int (nI (26 * y9 + x)), .int 1, .int time]) (rest := []) ⟨hx, hb, hml, hown, hts⟩ (zV 7 hP hD hK hE hB hS rfl rfl) (c_X1_learn_p (k := (26 * y9 + x)) (b := true) (by omega)) (cwV 3 hts gX4_tryLetter_X1_learn rfl rfl rfl hdv_X1_learn ⟨Nat.le_of_ble_eq_true rfl, Nat.le_of_ble_eq_true rfl⟩) rfl rfl hl.1 rfl (lv_room (Nat.le_of_ble_eq_true rfl)) dX4_tryLetter_61 ⟨Nat.le_of_ble_eq_true rfl, Nat.le_of_ble_eq_true rfl⟩) hS (fun H locs hP hD hS => ?_)
            have hP : va_P D vwCl (zWT cI cJ h (n, L) ((zkt kt x), (zkm true km x), (zkl true kl x time)) ((zkt pt (26 * y9 + x)), (zkm true pm (26 * y9 + x)), (zkl true pl (26 * y9 + x) time)) (nu, le, ow, fo, run, wc, lc, tr, cl, tm, 0) (yl, yc, yt, co, pa, su, sc) mc ++ R) _ := hP
            have hD : va_D (zAb B) (zWT cI cJ h (n, L) ((zkt kt x), (zkm true km x), (zkl true kl x time)) ((zkt pt (26 * y9 + x)), (zkm true pm (26 * y9 + x)), (zkl true pl (26 * y9 + x) time)) (nu, le, ow, fo, run, wc, lc, tr, cl, tm, 0) (yl, yc, yt, co, pa, su, sc) mc ++ R) := hD
            refine lv_aload_n hx hb dX4_tryLetter_64 rfl (lv_at hl 3 rfl) ?_
            refine va_get (ci := 4) (v := .ref (h 11)) (C := RX4) (T := TX4) (N := 6) hx hb hts hinX4 hown hK hP 0 rfl rfl 3 (by decide) (hts (.fieldLink RX4 31 "TypingTutor" "current" "LTypingTutor$Lesson;") (List.mem_of_getElem? (i := 1) rfl)) (fun _ h9 => h9) rfl dX4_tryLetter_65 ?_
            refine lv_iload_n hx hb dX4_tryLetter_68 rfl (lv_at hl 2 rfl) ?_
            refine zcv (zrV (As := [.int 1]) (rest := []) ⟨hx, hb, hml, hown, hts⟩ (zV 11 hP hD hK hE hB hS rfl rfl) (c_X2_goOn_1  ) (cwV 1 hts gX4_tryLetter_X2_goOn rfl rfl rfl hdv_X2_goOn ⟨Nat.le_of_ble_eq_true rfl, Nat.le_of_ble_eq_true rfl⟩) rfl rfl hl.1 rfl (lv_room (Nat.le_of_ble_eq_true rfl)) dX4_tryLetter_69 ⟨Nat.le_of_ble_eq_true rfl, Nat.le_of_ble_eq_true rfl⟩) hS (fun H locs hP hD hS => ?_)
            have hP : va_P D vwCl (zWT cI cJ h (n, L) ((zkt kt x), (zkm true km x), (zkl true kl x time)) ((zkt pt (26 * y9 + x)), (zkm true pm (26 * y9 + x)), (zkl true pl (26 * y9 + x) time)) (nu, le, ow, fo, run, wc, lc, (tr + 1), (cl + 1), tm, 0) (yl, yc, yt, co, pa, su, sc) mc ++ R) _ := hP
            have hD : va_D (zAb B) (zWT cI cJ h (n, L) ((zkt kt x), (zkm true km x), (zkl true kl x time)) ((zkt pt (26 * y9 + x)), (zkm true pm (26 * y9 + x)), (zkl true pl (26 * y9 + x) time)) (nu, le, ow, fo, run, wc, lc, (tr + 1), (cl + 1), tm, 0) (yl, yc, yt, co, pa, su, sc) mc ++ R) := hD
            refine lv_aload_n hx hb dX4_tryLetter_72 rfl (lv_at hl 3 rfl) ?_
            refine va_get (ci := 4) (v := .ref (h 11)) (C := RX4) (T := TX4) (N := 6) hx hb hts hinX4 hown hK hP 0 rfl rfl 3 (by decide) (hts (.fieldLink RX4 31 "TypingTutor" "current" "LTypingTutor$Lesson;") (List.mem_of_getElem? (i := 1) rfl)) (fun _ h9 => h9) rfl dX4_tryLetter_73 ?_
            refine zci (zrV (As := []) (rest := []) ⟨hx, hb, hml, hown, hts⟩ (zV 11 hP hD hK hE hB hS rfl rfl) (c_X2_triedTotal  ) (cwV 0 hts gX4_tryLetter_X2_triedTotal rfl rfl rfl hdv_X2_triedTotal ⟨Nat.le_of_ble_eq_true rfl, Nat.le_of_ble_eq_true rfl⟩) rfl rfl hl.1 rfl (lv_room (Nat.le_of_ble_eq_true rfl)) dX4_tryLetter_76 ⟨Nat.le_of_ble_eq_true rfl, Nat.le_of_ble_eq_true rfl⟩) hS (fun H locs hP hD hS => ?_)
            have hP : va_P D vwCl (zWT cI cJ h (n, L) ((zkt kt x), (zkm true km x), (zkl true kl x time)) ((zkt pt (26 * y9 + x)), (zkm true pm (26 * y9 + x)), (zkl true pl (26 * y9 + x) time)) (nu, le, ow, fo, run, wc, lc, (tr + 1), (cl + 1), tm, 0) (yl, yc, yt, co, pa, su, sc) mc ++ R) _ := hP
            have hD : va_D (zAb B) (zWT cI cJ h (n, L) ((zkt kt x), (zkm true km x), (zkl true kl x time)) ((zkt pt (26 * y9 + x)), (zkm true pm (26 * y9 + x)), (zkl true pl (26 * y9 + x) time)) (nu, le, ow, fo, run, wc, lc, (tr + 1), (cl + 1), tm, 0) (yl, yc, yt, co, pa, su, sc) mc ++ R) := hD
            refine lv_aload_n hx hb dX4_tryLetter_79 rfl (lv_at hl 3 rfl) ?_
            refine va_get (ci := 4) (v := .ref (h 11)) (C := RX4) (T := TX4) (N := 6) hx hb hts hinX4 hown hK hP 0 rfl rfl 3 (by decide) (hts (.fieldLink RX4 31 "TypingTutor" "current" "LTypingTutor$Lesson;") (List.mem_of_getElem? (i := 1) rfl)) (fun _ h9 => h9) rfl dX4_tryLetter_80 ?_
            refine zci (zrV (As := []) (rest := [.int (nI (tr + 1))]) ⟨hx, hb, hml, hown, hts⟩ (zV 11 hP hD hK hE hB hS rfl rfl) (c_X2_letterTotal  ) (cwV 0 hts gX4_tryLetter_X2_letterTotal rfl rfl rfl hdv_X2_letterTotal ⟨Nat.le_of_ble_eq_true rfl, Nat.le_of_ble_eq_true rfl⟩) rfl rfl hl.1 rfl (lv_room (Nat.le_of_ble_eq_true rfl)) dX4_tryLetter_83 ⟨Nat.le_of_ble_eq_true rfl, Nat.le_of_ble_eq_true rfl⟩) hS (fun H locs hP hD hS => ?_)
            have hP : va_P D vwCl (zWT cI cJ h (n, L) ((zkt kt x), (zkm true km x), (zkl true kl x time)) ((zkt pt (26 * y9 + x)), (zkm true pm (26 * y9 + x)), (zkl true pl (26 * y9 + x) time)) (nu, le, ow, fo, run, wc, lc, (tr + 1), (cl + 1), tm, 0) (yl, yc, yt, co, pa, su, sc) mc ++ R) _ := hP
            have hD : va_D (zAb B) (zWT cI cJ h (n, L) ((zkt kt x), (zkm true km x), (zkl true kl x time)) ((zkt pt (26 * y9 + x)), (zkm true pm (26 * y9 + x)), (zkl true pl (26 * y9 + x) time)) (nu, le, ow, fo, run, wc, lc, (tr + 1), (cl + 1), tm, 0) (yl, yc, yt, co, pa, su, sc) mc ++ R) := hD
            refine lv_icmp_lt (tgt := 124) hx hb dX4_tryLetter_86 (by decide) (fun c_12 => ?_) (fun c_12 => ?_)
            · skip
              have c_12 : (tr + 1) < lc := (nI_ltI (a := (tr + 1)) (b := lc) (by omega) (by omega)).mp c_12
              exact W.vret hx hb hr (fun t ht hW => ⟨⟨(), rfl, trivial, by rw [ht]; exact hP, hD⟩, hS.F ht⟩) hS.2.2 dX4_tryLetter_124
            · skip
              have c_12 : ¬ (tr + 1) < lc := fun hh => c_12 ((nI_ltI (a := (tr + 1)) (b := lc) (by omega) (by omega)).mpr hh)
              refine lv_aload_n hx hb dX4_tryLetter_89 rfl (lv_at hl 3 rfl) ?_
              refine va_get (ci := 4) (v := .ref (h 11)) (C := RX4) (T := TX4) (N := 6) hx hb hts hinX4 hown hK hP 0 rfl rfl 3 (by decide) (hts (.fieldLink RX4 31 "TypingTutor" "current" "LTypingTutor$Lesson;") (List.mem_of_getElem? (i := 1) rfl)) (fun _ h9 => h9) rfl dX4_tryLetter_90 ?_
              refine zcv (zrV (As := []) (rest := []) ⟨hx, hb, hml, hown, hts⟩ (zV 11 hP hD hK hE hB hS rfl rfl) (c_X2_stop  ) (cwV 0 hts gX4_tryLetter_X2_stop rfl rfl rfl hdv_X2_stop ⟨Nat.le_of_ble_eq_true rfl, Nat.le_of_ble_eq_true rfl⟩) rfl rfl hl.1 rfl (lv_room (Nat.le_of_ble_eq_true rfl)) dX4_tryLetter_93 ⟨Nat.le_of_ble_eq_true rfl, Nat.le_of_ble_eq_true rfl⟩) hS (fun H locs hP hD hS => ?_)
              have hP : va_P D vwCl (zWT cI cJ h (n, L) ((zkt kt x), (zkm true km x), (zkl true kl x time)) ((zkt pt (26 * y9 + x)), (zkm true pm (26 * y9 + x)), (zkl true pl (26 * y9 + x) time)) (nu, le, ow, fo, false, wc, lc, (tr + 1), (cl + 1), tm, 0) (yl, yc, yt, co, pa, su, sc) mc ++ R) _ := hP
              have hD : va_D (zAb B) (zWT cI cJ h (n, L) ((zkt kt x), (zkm true km x), (zkl true kl x time)) ((zkt pt (26 * y9 + x)), (zkm true pm (26 * y9 + x)), (zkl true pl (26 * y9 + x) time)) (nu, le, ow, fo, false, wc, lc, (tr + 1), (cl + 1), tm, 0) (yl, yc, yt, co, pa, su, sc) mc ++ R) := hD
              refine lv_aload_n hx hb dX4_tryLetter_96 rfl (lv_at hl 3 rfl) ?_
              refine va_get (ci := 4) (v := .ref (h 16)) (C := RX4) (T := TX4) (N := 6) hx hb hts hinX4 hown hK hP 0 rfl rfl 4 (by decide) (hts (.fieldLink RX4 38 "TypingTutor" "past" "LTypingTutor$History;") (List.mem_of_getElem? (i := 4) rfl)) (fun _ h9 => h9) rfl dX4_tryLetter_97 ?_
              refine lv_aload_n hx hb dX4_tryLetter_100 rfl (lv_at hl 3 rfl) ?_
              refine va_get (ci := 4) (v := .ref (h 11)) (C := RX4) (T := TX4) (N := 6) hx hb hts hinX4 hown hK hP 0 rfl rfl 3 (by decide) (hts (.fieldLink RX4 31 "TypingTutor" "current" "LTypingTutor$Lesson;") (List.mem_of_getElem? (i := 1) rfl)) (fun _ h9 => h9) rfl dX4_tryLetter_101 ?_
              refine zci (zrV (As := []) (rest := [.ref (h 16)]) ⟨hx, hb, hml, hown, hts⟩ (zV 11 hP hD hK hE hB hS rfl rfl) (c_X2_letterTotal  ) (cwV 0 hts gX4_tryLetter_X2_letterTotal rfl rfl rfl hdv_X2_letterTotal ⟨Nat.le_of_ble_eq_true rfl, Nat.le_of_ble_eq_true rfl⟩) rfl rfl hl.1 rfl (lv_room (Nat.le_of_ble_eq_true rfl)) dX4_tryLetter_104 ⟨Nat.le_of_ble_eq_true rfl, Nat.le_of_ble_eq_true rfl⟩) hS (fun H locs hP hD hS => ?_)
              have hP : va_P D vwCl (zWT cI cJ h (n, L) ((zkt kt x), (zkm true km x), (zkl true kl x time)) ((zkt pt (26 * y9 + x)), (zkm true pm (26 * y9 + x)), (zkl true pl (26 * y9 + x) time)) (nu, le, ow, fo, false, wc, lc, (tr + 1), (cl + 1), tm, 0) (yl, yc, yt, co, pa, su, sc) mc ++ R) _ := hP
              have hD : va_D (zAb B) (zWT cI cJ h (n, L) ((zkt kt x), (zkm true km x), (zkl true kl x time)) ((zkt pt (26 * y9 + x)), (zkm true pm (26 * y9 + x)), (zkl true pl (26 * y9 + x) time)) (nu, le, ow, fo, false, wc, lc, (tr + 1), (cl + 1), tm, 0) (yl, yc, yt, co, pa, su, sc) mc ++ R) := hD
              refine lv_aload_n hx hb dX4_tryLetter_107 rfl (lv_at hl 3 rfl) ?_
              refine va_get (ci := 4) (v := .ref (h 11)) (C := RX4) (T := TX4) (N := 6) hx hb hts hinX4 hown hK hP 0 rfl rfl 3 (by decide) (hts (.fieldLink RX4 31 "TypingTutor" "current" "LTypingTutor$Lesson;") (List.mem_of_getElem? (i := 1) rfl)) (fun _ h9 => h9) rfl dX4_tryLetter_108 ?_
              refine zci (zrV (As := []) (rest := [.int (nI lc), .ref (h 16)]) ⟨hx, hb, hml, hown, hts⟩ (zV 11 hP hD hK hE hB hS rfl rfl) (c_X2_cleanTotal  ) (cwV 0 hts gX4_tryLetter_X2_cleanTotal rfl rfl rfl hdv_X2_cleanTotal ⟨Nat.le_of_ble_eq_true rfl, Nat.le_of_ble_eq_true rfl⟩) rfl rfl hl.1 rfl (lv_room (Nat.le_of_ble_eq_true rfl)) dX4_tryLetter_111 ⟨Nat.le_of_ble_eq_true rfl, Nat.le_of_ble_eq_true rfl⟩) hS (fun H locs hP hD hS => ?_)
              have hP : va_P D vwCl (zWT cI cJ h (n, L) ((zkt kt x), (zkm true km x), (zkl true kl x time)) ((zkt pt (26 * y9 + x)), (zkm true pm (26 * y9 + x)), (zkl true pl (26 * y9 + x) time)) (nu, le, ow, fo, false, wc, lc, (tr + 1), (cl + 1), tm, 0) (yl, yc, yt, co, pa, su, sc) mc ++ R) _ := hP
              have hD : va_D (zAb B) (zWT cI cJ h (n, L) ((zkt kt x), (zkm true km x), (zkl true kl x time)) ((zkt pt (26 * y9 + x)), (zkm true pm (26 * y9 + x)), (zkl true pl (26 * y9 + x) time)) (nu, le, ow, fo, false, wc, lc, (tr + 1), (cl + 1), tm, 0) (yl, yc, yt, co, pa, su, sc) mc ++ R) := hD
              refine lv_aload_n hx hb dX4_tryLetter_114 rfl (lv_at hl 3 rfl) ?_
              refine va_get (ci := 4) (v := .ref (h 11)) (C := RX4) (T := TX4) (N := 6) hx hb hts hinX4 hown hK hP 0 rfl rfl 3 (by decide) (hts (.fieldLink RX4 31 "TypingTutor" "current" "LTypingTutor$Lesson;") (List.mem_of_getElem? (i := 1) rfl)) (fun _ h9 => h9) rfl dX4_tryLetter_115 ?_
              refine zci (zrV (As := []) (rest := [.int (nI (cl + 1)), .int (nI lc), .ref (h 16)]) ⟨hx, hb, hml, hown, hts⟩ (zV 11 hP hD hK hE hB hS rfl rfl) (c_X2_timeSum  ) (cwV 0 hts gX4_tryLetter_X2_timeSum rfl rfl rfl hdv_X2_timeSum ⟨Nat.le_of_ble_eq_true rfl, Nat.le_of_ble_eq_true rfl⟩) rfl rfl hl.1 rfl (lv_room (Nat.le_of_ble_eq_true rfl)) dX4_tryLetter_118 ⟨Nat.le_of_ble_eq_true rfl, Nat.le_of_ble_eq_true rfl⟩) hS (fun H locs hP hD hS => ?_)
              have hP : va_P D vwCl (zWT cI cJ h (n, L) ((zkt kt x), (zkm true km x), (zkl true kl x time)) ((zkt pt (26 * y9 + x)), (zkm true pm (26 * y9 + x)), (zkl true pl (26 * y9 + x) time)) (nu, le, ow, fo, false, wc, lc, (tr + 1), (cl + 1), tm, 0) (yl, yc, yt, co, pa, su, sc) mc ++ R) _ := hP
              have hD : va_D (zAb B) (zWT cI cJ h (n, L) ((zkt kt x), (zkm true km x), (zkl true kl x time)) ((zkt pt (26 * y9 + x)), (zkm true pm (26 * y9 + x)), (zkl true pl (26 * y9 + x) time)) (nu, le, ow, fo, false, wc, lc, (tr + 1), (cl + 1), tm, 0) (yl, yc, yt, co, pa, su, sc) mc ++ R) := hD
              refine zcv (zrV (As := [.int (nI lc), .int (nI (cl + 1)), .int (nI tm)]) (rest := []) ⟨hx, hb, hml, hown, hts⟩ (zV 16 hP hD hK hE hB hS rfl rfl) (c_X0_keep (lt := lc) (ct := (cl + 1)) (ts := tm) (by omega) (by omega) (by omega)) (cwV 3 hts gX4_tryLetter_X0_keep rfl rfl rfl hdv_X0_keep ⟨Nat.le_of_ble_eq_true rfl, Nat.le_of_ble_eq_true rfl⟩) rfl rfl hl.1 rfl (lv_room (Nat.le_of_ble_eq_true rfl)) dX4_tryLetter_121 ⟨Nat.le_of_ble_eq_true rfl, Nat.le_of_ble_eq_true rfl⟩) hS (fun H locs hP hD hS => ?_)
              have hP : va_P D vwCl (zWT cI cJ h (n, L) ((zkt kt x), (zkm true km x), (zkl true kl x time)) ((zkt pt (26 * y9 + x)), (zkm true pm (26 * y9 + x)), (zkl true pl (26 * y9 + x) time)) (nu, le, ow, fo, false, wc, lc, (tr + 1), (cl + 1), tm, 0) ((upd yl co (nI lc)), (upd yc co (nI (cl + 1))), (upd yt co (nI tm)), (co + 1), (zpc pa lc (cl + 1)), (su + lc), (sc + (cl + 1))) mc ++ R) _ := hP
              have hD : va_D (zAb B) (zWT cI cJ h (n, L) ((zkt kt x), (zkm true km x), (zkl true kl x time)) ((zkt pt (26 * y9 + x)), (zkm true pm (26 * y9 + x)), (zkl true pl (26 * y9 + x) time)) (nu, le, ow, fo, false, wc, lc, (tr + 1), (cl + 1), tm, 0) ((upd yl co (nI lc)), (upd yc co (nI (cl + 1))), (upd yt co (nI tm)), (co + 1), (zpc pa lc (cl + 1)), (su + lc), (sc + (cl + 1))) mc ++ R) := hD
              exact W.vret hx hb hr (fun t ht hW => ⟨⟨(), rfl, trivial, by rw [ht]; exact hP, hD⟩, hS.F ht⟩) hS.2.2 dX4_tryLetter_124
  | succ ms9 =>
    cases o with
    | none =>
      cases fin with
      | true =>
        refine Met.ofW (cc := cX4_tryLetter) (maxL := 5) (ret := none) (by decide) rfl ?_
        intro p e s m args below meth c s₁ B0 hml hv
        obtain ⟨rfl, hP, hD, hK, hE, hB⟩ := hv
        have hx := B0.exec
        have hb := B0.bytes
        have hr := B0.returns
        have hts := atoms_spec (ws := wsX4_tryLetter) B0.pre
        have hown : s.vm.findClass RX4 = some m.cls := findClass_of_methodNamed B0.named
        have hlocks := B0.notSynchronized
        have hA : ∀ q : Nat, s.heap.size ≤ q → zAb B q := fun q hq => Nat.le_trans hB hq
        have hS : va_S (zAb B) s.heap s.heap [] := va_S.rf
        have hl := lv_entry ([.ref (h 0), .int time]) (n := 5) (Nat.le_of_ble_eq_true rfl)
        rw [lg_entry_eq]
        generalize (lg_sl ([.ref (h 0), .int time]) ++ List.replicate (5 - (lg_sl ([.ref (h 0), .int time])).length) Slot.unset).toArray = ls at hl ⊢
        have hl : lv_has ls 5 [(0, .ref (h 0)), (1, .int time)] := hl
        have hinX4 : ∀ w ∈ wsX40, w ∈ wsX4_tryLetter := fun _ h => List.mem_cons_of_mem _ (List.mem_append_left _ (List.mem_append_left _ (List.mem_append_left _ (List.mem_append_right _ h))))
        have hP : va_P D vwCl (zWT cI cJ h (n, L) (kt, km, kl) (pt, pm, pl) (nu, le, ow, fo, run, wc, lc, tr, cl, tm, (ms9 + 1)) (yl, yc, yt, co, pa, su, sc) mc ++ R) s.heap := hP
        have hD : va_D (zAb B) (zWT cI cJ h (n, L) (kt, km, kl) (pt, pm, pl) (nu, le, ow, fo, run, wc, lc, tr, cl, tm, (ms9 + 1)) (yl, yc, yt, co, pa, su, sc) mc ++ R) := hD
        have hf : tr + 1 = lc := hf
        refine lv_aload_n hx hb dX4_tryLetter_0 rfl (lv_at hl 0 rfl) ?_
        refine va_get (ci := 4) (v := .ref (h 11)) (C := RX4) (T := TX4) (N := 6) hx hb hts hinX4 hown hK hP 0 rfl rfl 3 (by decide) (hts (.fieldLink RX4 31 "TypingTutor" "current" "LTypingTutor$Lesson;") (List.mem_of_getElem? (i := 1) rfl)) (fun _ h9 => h9) rfl dX4_tryLetter_1 ?_
        refine zci (zrV (As := []) (rest := []) ⟨hx, hb, hml, hown, hts⟩ (zV 11 hP hD hK hE hB hS rfl rfl) (c_X2_mistakesHere  ) (cwV 0 hts gX4_tryLetter_X2_mistakesHere rfl rfl rfl hdv_X2_mistakesHere ⟨Nat.le_of_ble_eq_true rfl, Nat.le_of_ble_eq_true rfl⟩) rfl rfl hl.1 rfl (lv_room (Nat.le_of_ble_eq_true rfl)) dX4_tryLetter_4 ⟨Nat.le_of_ble_eq_true rfl, Nat.le_of_ble_eq_true rfl⟩) hS (fun H locs hP hD hS => ?_)
        have hP : va_P D vwCl (zWT cI cJ h (n, L) (kt, km, kl) (pt, pm, pl) (nu, le, ow, fo, run, wc, lc, tr, cl, tm, (ms9 + 1)) (yl, yc, yt, co, pa, su, sc) mc ++ R) _ := hP
        have hD : va_D (zAb B) (zWT cI cJ h (n, L) (kt, km, kl) (pt, pm, pl) (nu, le, ow, fo, run, wc, lc, tr, cl, tm, (ms9 + 1)) (yl, yc, yt, co, pa, su, sc) mc ++ R) := hD
        refine lv_if_ne (tgt := 14) hx hb dX4_tryLetter_7 (by decide) (fun c_13 => ?_) (fun c_13 => ?_)
        · skip
          have c_13 : ¬ (ms9 + 1) = 0 := fun hh => c_13 ((nI_eq (a := (ms9 + 1)) (b := 0) (by omega) (by omega)).mpr hh)
          refine lv_iconst (v := 0) hx hb dX4_tryLetter_14 (by decide) ?_
          refine lv_istore_n (lv' := [(2, .int 0), (0, .ref (h 0)), (1, .int time)]) hx hb dX4_tryLetter_15 rfl hl (by decide) rfl (fun ls hl => ?_)
          refine lv_aload_n hx hb dX4_tryLetter_16 rfl (lv_at hl 1 rfl) ?_
          refine va_get (ci := 4) (v := .ref (h 11)) (C := RX4) (T := TX4) (N := 6) hx hb hts hinX4 hown hK hP 0 rfl rfl 3 (by decide) (hts (.fieldLink RX4 31 "TypingTutor" "current" "LTypingTutor$Lesson;") (List.mem_of_getElem? (i := 1) rfl)) (fun _ h9 => h9) rfl dX4_tryLetter_17 ?_
          refine zci (zrV (As := []) (rest := []) ⟨hx, hb, hml, hown, hts⟩ (zV 11 hP hD hK hE hB hS rfl rfl) (c_X2_letterHere  (by omega)) (cwV 0 hts gX4_tryLetter_X2_letterHere rfl rfl rfl hdv_X2_letterHere ⟨Nat.le_of_ble_eq_true rfl, Nat.le_of_ble_eq_true rfl⟩) rfl rfl hl.1 rfl (lv_room (Nat.le_of_ble_eq_true rfl)) dX4_tryLetter_20 ⟨Nat.le_of_ble_eq_true rfl, Nat.le_of_ble_eq_true rfl⟩) hS (fun H locs hP hD hS => ?_)
          have hP : va_P D vwCl (zWT cI cJ h (n, L) (kt, km, kl) (pt, pm, pl) (nu, le, ow, fo, run, wc, lc, tr, cl, tm, (ms9 + 1)) (yl, yc, yt, co, pa, su, sc) mc ++ R) _ := hP
          have hD : va_D (zAb B) (zWT cI cJ h (n, L) (kt, km, kl) (pt, pm, pl) (nu, le, ow, fo, run, wc, lc, tr, cl, tm, (ms9 + 1)) (yl, yc, yt, co, pa, su, sc) mc ++ R) := hD
          rw [show (le tr) = (nI x) from hx9]
          refine lv_istore_n (lv' := [(3, .int (nI x)), (2, .int 0), (0, .ref (h 0)), (1, .int time)]) hx hb dX4_tryLetter_23 rfl hl (by decide) rfl (fun ls hl => ?_)
          refine lv_aload_n hx hb dX4_tryLetter_24 rfl (lv_at hl 2 rfl) ?_
          refine va_get (ci := 4) (v := .ref (h 11)) (C := RX4) (T := TX4) (N := 6) hx hb hts hinX4 hown hK hP 0 rfl rfl 3 (by decide) (hts (.fieldLink RX4 31 "TypingTutor" "current" "LTypingTutor$Lesson;") (List.mem_of_getElem? (i := 1) rfl)) (fun _ h9 => h9) rfl dX4_tryLetter_25 ?_
          refine zci (zrV (As := []) (rest := []) ⟨hx, hb, hml, hown, hts⟩ (zV 11 hP hD hK hE hB hS rfl rfl) (c_X2_letterBefore  (by omega) (by omega)) (cwV 0 hts gX4_tryLetter_X2_letterBefore rfl rfl rfl hdv_X2_letterBefore ⟨Nat.le_of_ble_eq_true rfl, Nat.le_of_ble_eq_true rfl⟩) rfl rfl hl.1 rfl (lv_room (Nat.le_of_ble_eq_true rfl)) dX4_tryLetter_28 ⟨Nat.le_of_ble_eq_true rfl, Nat.le_of_ble_eq_true rfl⟩) hS (fun H locs hP hD hS => ?_)
          have hP : va_P D vwCl (zWT cI cJ h (n, L) (kt, km, kl) (pt, pm, pl) (nu, le, ow, fo, run, wc, lc, tr, cl, tm, (ms9 + 1)) (yl, yc, yt, co, pa, su, sc) mc ++ R) _ := hP
          have hD : va_D (zAb B) (zWT cI cJ h (n, L) (kt, km, kl) (pt, pm, pl) (nu, le, ow, fo, run, wc, lc, tr, cl, tm, (ms9 + 1)) (yl, yc, yt, co, pa, su, sc) mc ++ R) := hD
          rw [show (zis le ow lc tr (nI tr - 1)) = (-1) from ho]
          refine lv_istore (lv' := [(4, .int (-1)), (3, .int (nI x)), (2, .int 0), (0, .ref (h 0)), (1, .int time)]) hx hb dX4_tryLetter_31 hl (by decide) rfl (fun ls hl => ?_)
          refine lv_aload_n hx hb dX4_tryLetter_33 rfl (lv_at hl 3 rfl) ?_
          refine va_get (ci := 4) (v := .ref (h 3)) (C := RX4) (T := TX4) (N := 6) hx hb hts hinX4 hown hK hP 0 rfl rfl 1 (by decide) (hts (.fieldLink RX4 21 "TypingTutor" "keys" "LTypingTutor$Knowledge;") (List.mem_of_getElem? (i := 2) rfl)) (fun _ h9 => h9) rfl dX4_tryLetter_34 ?_
          refine lv_iload_n hx hb dX4_tryLetter_37 rfl (lv_at hl 1 rfl) ?_
          refine lv_iload_n hx hb dX4_tryLetter_38 rfl (lv_at hl 2 rfl) ?_
          refine lv_iload_n hx hb dX4_tryLetter_39 rfl (lv_at hl 4 rfl) ?_
          refine zcv (zrV (As := [.int (nI x), .int 0, .int time]) (rest := []) ⟨hx, hb, hml, hown, hts⟩ (zV 3 hP hD hK hE hB hS rfl rfl) (c_X1_learn_k (k := x) (b := false) (by omega)) (cwV 3 hts gX4_tryLetter_X1_learn rfl rfl rfl hdv_X1_learn ⟨Nat.le_of_ble_eq_true rfl, Nat.le_of_ble_eq_true rfl⟩) rfl rfl hl.1 rfl (lv_room (Nat.le_of_ble_eq_true rfl)) dX4_tryLetter_40 ⟨Nat.le_of_ble_eq_true rfl, Nat.le_of_ble_eq_true rfl⟩) hS (fun H locs hP hD hS => ?_)
          have hP : va_P D vwCl (zWT cI cJ h (n, L) ((zkt kt x), (zkm false km x), (zkl false kl x time)) (pt, pm, pl) (nu, le, ow, fo, run, wc, lc, tr, cl, tm, (ms9 + 1)) (yl, yc, yt, co, pa, su, sc) mc ++ R) _ := hP
          have hD : va_D (zAb B) (zWT cI cJ h (n, L) ((zkt kt x), (zkm false km x), (zkl false kl x time)) (pt, pm, pl) (nu, le, ow, fo, run, wc, lc, tr, cl, tm, (ms9 + 1)) (yl, yc, yt, co, pa, su, sc) mc ++ R) := hD
          refine lv_iload hx hb dX4_tryLetter_43 (lv_at hl 0 rfl) ?_
          refine lv_iconst (v := (-1)) hx hb dX4_tryLetter_45 (by decide) ?_
          refine lv_icmp_eq (tgt := 64) hx hb dX4_tryLetter_46 (by decide) (fun c_14 => ?_) (fun c_14 => ?_)
          · skip
            refine lv_aload_n hx hb dX4_tryLetter_64 rfl (lv_at hl 3 rfl) ?_
            refine va_get (ci := 4) (v := .ref (h 11)) (C := RX4) (T := TX4) (N := 6) hx hb hts hinX4 hown hK hP 0 rfl rfl 3 (by decide) (hts (.fieldLink RX4 31 "TypingTutor" "current" "LTypingTutor$Lesson;") (List.mem_of_getElem? (i := 1) rfl)) (fun _ h9 => h9) rfl dX4_tryLetter_65 ?_
            refine lv_iload_n hx hb dX4_tryLetter_68 rfl (lv_at hl 2 rfl) ?_
            refine zcv (zrV (As := [.int 0]) (rest := []) ⟨hx, hb, hml, hown, hts⟩ (zV 11 hP hD hK hE hB hS rfl rfl) (c_X2_goOn_0  ) (cwV 1 hts gX4_tryLetter_X2_goOn rfl rfl rfl hdv_X2_goOn ⟨Nat.le_of_ble_eq_true rfl, Nat.le_of_ble_eq_true rfl⟩) rfl rfl hl.1 rfl (lv_room (Nat.le_of_ble_eq_true rfl)) dX4_tryLetter_69 ⟨Nat.le_of_ble_eq_true rfl, Nat.le_of_ble_eq_true rfl⟩) hS (fun H locs hP hD hS => ?_)
            have hP : va_P D vwCl (zWT cI cJ h (n, L) ((zkt kt x), (zkm false km x), (zkl false kl x time)) (pt, pm, pl) (nu, le, ow, fo, run, wc, lc, (tr + 1), cl, tm, 0) (yl, yc, yt, co, pa, su, sc) mc ++ R) _ := hP
            have hD : va_D (zAb B) (zWT cI cJ h (n, L) ((zkt kt x), (zkm false km x), (zkl false kl x time)) (pt, pm, pl) (nu, le, ow, fo, run, wc, lc, (tr + 1), cl, tm, 0) (yl, yc, yt, co, pa, su, sc) mc ++ R) := hD
            refine lv_aload_n hx hb dX4_tryLetter_72 rfl (lv_at hl 3 rfl) ?_
            refine va_get (ci := 4) (v := .ref (h 11)) (C := RX4) (T := TX4) (N := 6) hx hb hts hinX4 hown hK hP 0 rfl rfl 3 (by decide) (hts (.fieldLink RX4 31 "TypingTutor" "current" "LTypingTutor$Lesson;") (List.mem_of_getElem? (i := 1) rfl)) (fun _ h9 => h9) rfl dX4_tryLetter_73 ?_
            refine zci (zrV (As := []) (rest := []) ⟨hx, hb, hml, hown, hts⟩ (zV 11 hP hD hK hE hB hS rfl rfl) (c_X2_triedTotal  ) (cwV 0 hts gX4_tryLetter_X2_triedTotal rfl rfl rfl hdv_X2_triedTotal ⟨Nat.le_of_ble_eq_true rfl, Nat.le_of_ble_eq_true rfl⟩) rfl rfl hl.1 rfl (lv_room (Nat.le_of_ble_eq_true rfl)) dX4_tryLetter_76 ⟨Nat.le_of_ble_eq_true rfl, Nat.le_of_ble_eq_true rfl⟩) hS (fun H locs hP hD hS => ?_)
            have hP : va_P D vwCl (zWT cI cJ h (n, L) ((zkt kt x), (zkm false km x), (zkl false kl x time)) (pt, pm, pl) (nu, le, ow, fo, run, wc, lc, (tr + 1), cl, tm, 0) (yl, yc, yt, co, pa, su, sc) mc ++ R) _ := hP
            have hD : va_D (zAb B) (zWT cI cJ h (n, L) ((zkt kt x), (zkm false km x), (zkl false kl x time)) (pt, pm, pl) (nu, le, ow, fo, run, wc, lc, (tr + 1), cl, tm, 0) (yl, yc, yt, co, pa, su, sc) mc ++ R) := hD
            refine lv_aload_n hx hb dX4_tryLetter_79 rfl (lv_at hl 3 rfl) ?_
            refine va_get (ci := 4) (v := .ref (h 11)) (C := RX4) (T := TX4) (N := 6) hx hb hts hinX4 hown hK hP 0 rfl rfl 3 (by decide) (hts (.fieldLink RX4 31 "TypingTutor" "current" "LTypingTutor$Lesson;") (List.mem_of_getElem? (i := 1) rfl)) (fun _ h9 => h9) rfl dX4_tryLetter_80 ?_
            refine zci (zrV (As := []) (rest := [.int (nI (tr + 1))]) ⟨hx, hb, hml, hown, hts⟩ (zV 11 hP hD hK hE hB hS rfl rfl) (c_X2_letterTotal  ) (cwV 0 hts gX4_tryLetter_X2_letterTotal rfl rfl rfl hdv_X2_letterTotal ⟨Nat.le_of_ble_eq_true rfl, Nat.le_of_ble_eq_true rfl⟩) rfl rfl hl.1 rfl (lv_room (Nat.le_of_ble_eq_true rfl)) dX4_tryLetter_83 ⟨Nat.le_of_ble_eq_true rfl, Nat.le_of_ble_eq_true rfl⟩) hS (fun H locs hP hD hS => ?_)
            have hP : va_P D vwCl (zWT cI cJ h (n, L) ((zkt kt x), (zkm false km x), (zkl false kl x time)) (pt, pm, pl) (nu, le, ow, fo, run, wc, lc, (tr + 1), cl, tm, 0) (yl, yc, yt, co, pa, su, sc) mc ++ R) _ := hP
            have hD : va_D (zAb B) (zWT cI cJ h (n, L) ((zkt kt x), (zkm false km x), (zkl false kl x time)) (pt, pm, pl) (nu, le, ow, fo, run, wc, lc, (tr + 1), cl, tm, 0) (yl, yc, yt, co, pa, su, sc) mc ++ R) := hD
            refine lv_icmp_lt (tgt := 124) hx hb dX4_tryLetter_86 (by decide) (fun c_15 => ?_) (fun c_15 => ?_)
            · skip
              have c_15 : (tr + 1) < lc := (nI_ltI (a := (tr + 1)) (b := lc) (by omega) (by omega)).mp c_15
              exact W.vret hx hb hr (fun t ht hW => ⟨⟨(), rfl, trivial, by rw [ht]; exact hP, hD⟩, hS.F ht⟩) hS.2.2 dX4_tryLetter_124
            · skip
              have c_15 : ¬ (tr + 1) < lc := fun hh => c_15 ((nI_ltI (a := (tr + 1)) (b := lc) (by omega) (by omega)).mpr hh)
              refine lv_aload_n hx hb dX4_tryLetter_89 rfl (lv_at hl 3 rfl) ?_
              refine va_get (ci := 4) (v := .ref (h 11)) (C := RX4) (T := TX4) (N := 6) hx hb hts hinX4 hown hK hP 0 rfl rfl 3 (by decide) (hts (.fieldLink RX4 31 "TypingTutor" "current" "LTypingTutor$Lesson;") (List.mem_of_getElem? (i := 1) rfl)) (fun _ h9 => h9) rfl dX4_tryLetter_90 ?_
              refine zcv (zrV (As := []) (rest := []) ⟨hx, hb, hml, hown, hts⟩ (zV 11 hP hD hK hE hB hS rfl rfl) (c_X2_stop  ) (cwV 0 hts gX4_tryLetter_X2_stop rfl rfl rfl hdv_X2_stop ⟨Nat.le_of_ble_eq_true rfl, Nat.le_of_ble_eq_true rfl⟩) rfl rfl hl.1 rfl (lv_room (Nat.le_of_ble_eq_true rfl)) dX4_tryLetter_93 ⟨Nat.le_of_ble_eq_true rfl, Nat.le_of_ble_eq_true rfl⟩) hS (fun H locs hP hD hS => ?_)
              have hP : va_P D vwCl (zWT cI cJ h (n, L) ((zkt kt x), (zkm false km x), (zkl false kl x time)) (pt, pm, pl) (nu, le, ow, fo, false, wc, lc, (tr + 1), cl, tm, 0) (yl, yc, yt, co, pa, su, sc) mc ++ R) _ := hP
              have hD : va_D (zAb B) (zWT cI cJ h (n, L) ((zkt kt x), (zkm false km x), (zkl false kl x time)) (pt, pm, pl) (nu, le, ow, fo, false, wc, lc, (tr + 1), cl, tm, 0) (yl, yc, yt, co, pa, su, sc) mc ++ R) := hD
              refine lv_aload_n hx hb dX4_tryLetter_96 rfl (lv_at hl 3 rfl) ?_
              refine va_get (ci := 4) (v := .ref (h 16)) (C := RX4) (T := TX4) (N := 6) hx hb hts hinX4 hown hK hP 0 rfl rfl 4 (by decide) (hts (.fieldLink RX4 38 "TypingTutor" "past" "LTypingTutor$History;") (List.mem_of_getElem? (i := 4) rfl)) (fun _ h9 => h9) rfl dX4_tryLetter_97 ?_
              refine lv_aload_n hx hb dX4_tryLetter_100 rfl (lv_at hl 3 rfl) ?_
              refine va_get (ci := 4) (v := .ref (h 11)) (C := RX4) (T := TX4) (N := 6) hx hb hts hinX4 hown hK hP 0 rfl rfl 3 (by decide) (hts (.fieldLink RX4 31 "TypingTutor" "current" "LTypingTutor$Lesson;") (List.mem_of_getElem? (i := 1) rfl)) (fun _ h9 => h9) rfl dX4_tryLetter_101 ?_
              refine zci (zrV (As := []) (rest := [.ref (h 16)]) ⟨hx, hb, hml, hown, hts⟩ (zV 11 hP hD hK hE hB hS rfl rfl) (c_X2_letterTotal  ) (cwV 0 hts gX4_tryLetter_X2_letterTotal rfl rfl rfl hdv_X2_letterTotal ⟨Nat.le_of_ble_eq_true rfl, Nat.le_of_ble_eq_true rfl⟩) rfl rfl hl.1 rfl (lv_room (Nat.le_of_ble_eq_true rfl)) dX4_tryLetter_104 ⟨Nat.le_of_ble_eq_true rfl, Nat.le_of_ble_eq_true rfl⟩) hS (fun H locs hP hD hS => ?_)
              have hP : va_P D vwCl (zWT cI cJ h (n, L) ((zkt kt x), (zkm false km x), (zkl false kl x time)) (pt, pm, pl) (nu, le, ow, fo, false, wc, lc, (tr + 1), cl, tm, 0) (yl, yc, yt, co, pa, su, sc) mc ++ R) _ := hP
              have hD : va_D (zAb B) (zWT cI cJ h (n, L) ((zkt kt x), (zkm false km x), (zkl false kl x time)) (pt, pm, pl) (nu, le, ow, fo, false, wc, lc, (tr + 1), cl, tm, 0) (yl, yc, yt, co, pa, su, sc) mc ++ R) := hD
              refine lv_aload_n hx hb dX4_tryLetter_107 rfl (lv_at hl 3 rfl) ?_
              refine va_get (ci := 4) (v := .ref (h 11)) (C := RX4) (T := TX4) (N := 6) hx hb hts hinX4 hown hK hP 0 rfl rfl 3 (by decide) (hts (.fieldLink RX4 31 "TypingTutor" "current" "LTypingTutor$Lesson;") (List.mem_of_getElem? (i := 1) rfl)) (fun _ h9 => h9) rfl dX4_tryLetter_108 ?_
              refine zci (zrV (As := []) (rest := [.int (nI lc), .ref (h 16)]) ⟨hx, hb, hml, hown, hts⟩ (zV 11 hP hD hK hE hB hS rfl rfl) (c_X2_cleanTotal  ) (cwV 0 hts gX4_tryLetter_X2_cleanTotal rfl rfl rfl hdv_X2_cleanTotal ⟨Nat.le_of_ble_eq_true rfl, Nat.le_of_ble_eq_true rfl⟩) rfl rfl hl.1 rfl (lv_room (Nat.le_of_ble_eq_true rfl)) dX4_tryLetter_111 ⟨Nat.le_of_ble_eq_true rfl, Nat.le_of_ble_eq_true rfl⟩) hS (fun H locs hP hD hS => ?_)
              have hP : va_P D vwCl (zWT cI cJ h (n, L) ((zkt kt x), (zkm false km x), (zkl false kl x time)) (pt, pm, pl) (nu, le, ow, fo, false, wc, lc, (tr + 1), cl, tm, 0) (yl, yc, yt, co, pa, su, sc) mc ++ R) _ := hP
              have hD : va_D (zAb B) (zWT cI cJ h (n, L) ((zkt kt x), (zkm false km x), (zkl false kl x time)) (pt, pm, pl) (nu, le, ow, fo, false, wc, lc, (tr + 1), cl, tm, 0) (yl, yc, yt, co, pa, su, sc) mc ++ R) := hD
              refine lv_aload_n hx hb dX4_tryLetter_114 rfl (lv_at hl 3 rfl) ?_
              refine va_get (ci := 4) (v := .ref (h 11)) (C := RX4) (T := TX4) (N := 6) hx hb hts hinX4 hown hK hP 0 rfl rfl 3 (by decide) (hts (.fieldLink RX4 31 "TypingTutor" "current" "LTypingTutor$Lesson;") (List.mem_of_getElem? (i := 1) rfl)) (fun _ h9 => h9) rfl dX4_tryLetter_115 ?_
              refine zci (zrV (As := []) (rest := [.int (nI cl), .int (nI lc), .ref (h 16)]) ⟨hx, hb, hml, hown, hts⟩ (zV 11 hP hD hK hE hB hS rfl rfl) (c_X2_timeSum  ) (cwV 0 hts gX4_tryLetter_X2_timeSum rfl rfl rfl hdv_X2_timeSum ⟨Nat.le_of_ble_eq_true rfl, Nat.le_of_ble_eq_true rfl⟩) rfl rfl hl.1 rfl (lv_room (Nat.le_of_ble_eq_true rfl)) dX4_tryLetter_118 ⟨Nat.le_of_ble_eq_true rfl, Nat.le_of_ble_eq_true rfl⟩) hS (fun H locs hP hD hS => ?_)
              have hP : va_P D vwCl (zWT cI cJ h (n, L) ((zkt kt x), (zkm false km x), (zkl false kl x time)) (pt, pm, pl) (nu, le, ow, fo, false, wc, lc, (tr + 1), cl, tm, 0) (yl, yc, yt, co, pa, su, sc) mc ++ R) _ := hP
              have hD : va_D (zAb B) (zWT cI cJ h (n, L) ((zkt kt x), (zkm false km x), (zkl false kl x time)) (pt, pm, pl) (nu, le, ow, fo, false, wc, lc, (tr + 1), cl, tm, 0) (yl, yc, yt, co, pa, su, sc) mc ++ R) := hD
              refine zcv (zrV (As := [.int (nI lc), .int (nI cl), .int (nI tm)]) (rest := []) ⟨hx, hb, hml, hown, hts⟩ (zV 16 hP hD hK hE hB hS rfl rfl) (c_X0_keep (lt := lc) (ct := cl) (ts := tm) (by omega) (by omega) (by omega)) (cwV 3 hts gX4_tryLetter_X0_keep rfl rfl rfl hdv_X0_keep ⟨Nat.le_of_ble_eq_true rfl, Nat.le_of_ble_eq_true rfl⟩) rfl rfl hl.1 rfl (lv_room (Nat.le_of_ble_eq_true rfl)) dX4_tryLetter_121 ⟨Nat.le_of_ble_eq_true rfl, Nat.le_of_ble_eq_true rfl⟩) hS (fun H locs hP hD hS => ?_)
              have hP : va_P D vwCl (zWT cI cJ h (n, L) ((zkt kt x), (zkm false km x), (zkl false kl x time)) (pt, pm, pl) (nu, le, ow, fo, false, wc, lc, (tr + 1), cl, tm, 0) ((upd yl co (nI lc)), (upd yc co (nI cl)), (upd yt co (nI tm)), (co + 1), (zpc pa lc cl), (su + lc), (sc + cl)) mc ++ R) _ := hP
              have hD : va_D (zAb B) (zWT cI cJ h (n, L) ((zkt kt x), (zkm false km x), (zkl false kl x time)) (pt, pm, pl) (nu, le, ow, fo, false, wc, lc, (tr + 1), cl, tm, 0) ((upd yl co (nI lc)), (upd yc co (nI cl)), (upd yt co (nI tm)), (co + 1), (zpc pa lc cl), (su + lc), (sc + cl)) mc ++ R) := hD
              exact W.vret hx hb hr (fun t ht hW => ⟨⟨(), rfl, trivial, by rw [ht]; exact hP, hD⟩, hS.F ht⟩) hS.2.2 dX4_tryLetter_124
          · skip
            exfalso; first | omega | (revert c_14; decide) | (exact absurd rfl c_14) | simp_all
        · skip
          have c_13 : (ms9 + 1) = 0 := (nI_eq (a := (ms9 + 1)) (b := 0) (by omega) (by omega)).mp c_13
          refine lv_iconst (v := 1) hx hb dX4_tryLetter_10 (by decide) ?_
          refine lv_goto (tgt := 15) hx hb dX4_tryLetter_11 (by decide) ?_
          refine lv_istore_n (lv' := [(2, .int 1), (0, .ref (h 0)), (1, .int time)]) hx hb dX4_tryLetter_15 rfl hl (by decide) rfl (fun ls hl => ?_)
          refine lv_aload_n hx hb dX4_tryLetter_16 rfl (lv_at hl 1 rfl) ?_
          refine va_get (ci := 4) (v := .ref (h 11)) (C := RX4) (T := TX4) (N := 6) hx hb hts hinX4 hown hK hP 0 rfl rfl 3 (by decide) (hts (.fieldLink RX4 31 "TypingTutor" "current" "LTypingTutor$Lesson;") (List.mem_of_getElem? (i := 1) rfl)) (fun _ h9 => h9) rfl dX4_tryLetter_17 ?_
          refine zci (zrV (As := []) (rest := []) ⟨hx, hb, hml, hown, hts⟩ (zV 11 hP hD hK hE hB hS rfl rfl) (c_X2_letterHere  (by omega)) (cwV 0 hts gX4_tryLetter_X2_letterHere rfl rfl rfl hdv_X2_letterHere ⟨Nat.le_of_ble_eq_true rfl, Nat.le_of_ble_eq_true rfl⟩) rfl rfl hl.1 rfl (lv_room (Nat.le_of_ble_eq_true rfl)) dX4_tryLetter_20 ⟨Nat.le_of_ble_eq_true rfl, Nat.le_of_ble_eq_true rfl⟩) hS (fun H locs hP hD hS => ?_)
          have hP : va_P D vwCl (zWT cI cJ h (n, L) (kt, km, kl) (pt, pm, pl) (nu, le, ow, fo, run, wc, lc, tr, cl, tm, (ms9 + 1)) (yl, yc, yt, co, pa, su, sc) mc ++ R) _ := hP
          have hD : va_D (zAb B) (zWT cI cJ h (n, L) (kt, km, kl) (pt, pm, pl) (nu, le, ow, fo, run, wc, lc, tr, cl, tm, (ms9 + 1)) (yl, yc, yt, co, pa, su, sc) mc ++ R) := hD
          rw [show (le tr) = (nI x) from hx9]
          refine lv_istore_n (lv' := [(3, .int (nI x)), (2, .int 1), (0, .ref (h 0)), (1, .int time)]) hx hb dX4_tryLetter_23 rfl hl (by decide) rfl (fun ls hl => ?_)
          refine lv_aload_n hx hb dX4_tryLetter_24 rfl (lv_at hl 2 rfl) ?_
          refine va_get (ci := 4) (v := .ref (h 11)) (C := RX4) (T := TX4) (N := 6) hx hb hts hinX4 hown hK hP 0 rfl rfl 3 (by decide) (hts (.fieldLink RX4 31 "TypingTutor" "current" "LTypingTutor$Lesson;") (List.mem_of_getElem? (i := 1) rfl)) (fun _ h9 => h9) rfl dX4_tryLetter_25 ?_
          refine zci (zrV (As := []) (rest := []) ⟨hx, hb, hml, hown, hts⟩ (zV 11 hP hD hK hE hB hS rfl rfl) (c_X2_letterBefore  (by omega) (by omega)) (cwV 0 hts gX4_tryLetter_X2_letterBefore rfl rfl rfl hdv_X2_letterBefore ⟨Nat.le_of_ble_eq_true rfl, Nat.le_of_ble_eq_true rfl⟩) rfl rfl hl.1 rfl (lv_room (Nat.le_of_ble_eq_true rfl)) dX4_tryLetter_28 ⟨Nat.le_of_ble_eq_true rfl, Nat.le_of_ble_eq_true rfl⟩) hS (fun H locs hP hD hS => ?_)
          have hP : va_P D vwCl (zWT cI cJ h (n, L) (kt, km, kl) (pt, pm, pl) (nu, le, ow, fo, run, wc, lc, tr, cl, tm, (ms9 + 1)) (yl, yc, yt, co, pa, su, sc) mc ++ R) _ := hP
          have hD : va_D (zAb B) (zWT cI cJ h (n, L) (kt, km, kl) (pt, pm, pl) (nu, le, ow, fo, run, wc, lc, tr, cl, tm, (ms9 + 1)) (yl, yc, yt, co, pa, su, sc) mc ++ R) := hD
          rw [show (zis le ow lc tr (nI tr - 1)) = (-1) from ho]
          refine lv_istore (lv' := [(4, .int (-1)), (3, .int (nI x)), (2, .int 1), (0, .ref (h 0)), (1, .int time)]) hx hb dX4_tryLetter_31 hl (by decide) rfl (fun ls hl => ?_)
          refine lv_aload_n hx hb dX4_tryLetter_33 rfl (lv_at hl 3 rfl) ?_
          refine va_get (ci := 4) (v := .ref (h 3)) (C := RX4) (T := TX4) (N := 6) hx hb hts hinX4 hown hK hP 0 rfl rfl 1 (by decide) (hts (.fieldLink RX4 21 "TypingTutor" "keys" "LTypingTutor$Knowledge;") (List.mem_of_getElem? (i := 2) rfl)) (fun _ h9 => h9) rfl dX4_tryLetter_34 ?_
          refine lv_iload_n hx hb dX4_tryLetter_37 rfl (lv_at hl 1 rfl) ?_
          refine lv_iload_n hx hb dX4_tryLetter_38 rfl (lv_at hl 2 rfl) ?_
          refine lv_iload_n hx hb dX4_tryLetter_39 rfl (lv_at hl 4 rfl) ?_
          refine zcv (zrV (As := [.int (nI x), .int 1, .int time]) (rest := []) ⟨hx, hb, hml, hown, hts⟩ (zV 3 hP hD hK hE hB hS rfl rfl) (c_X1_learn_k (k := x) (b := true) (by omega)) (cwV 3 hts gX4_tryLetter_X1_learn rfl rfl rfl hdv_X1_learn ⟨Nat.le_of_ble_eq_true rfl, Nat.le_of_ble_eq_true rfl⟩) rfl rfl hl.1 rfl (lv_room (Nat.le_of_ble_eq_true rfl)) dX4_tryLetter_40 ⟨Nat.le_of_ble_eq_true rfl, Nat.le_of_ble_eq_true rfl⟩) hS (fun H locs hP hD hS => ?_)
          have hP : va_P D vwCl (zWT cI cJ h (n, L) ((zkt kt x), (zkm true km x), (zkl true kl x time)) (pt, pm, pl) (nu, le, ow, fo, run, wc, lc, tr, cl, tm, (ms9 + 1)) (yl, yc, yt, co, pa, su, sc) mc ++ R) _ := hP
          have hD : va_D (zAb B) (zWT cI cJ h (n, L) ((zkt kt x), (zkm true km x), (zkl true kl x time)) (pt, pm, pl) (nu, le, ow, fo, run, wc, lc, tr, cl, tm, (ms9 + 1)) (yl, yc, yt, co, pa, su, sc) mc ++ R) := hD
          refine lv_iload hx hb dX4_tryLetter_43 (lv_at hl 0 rfl) ?_
          refine lv_iconst (v := (-1)) hx hb dX4_tryLetter_45 (by decide) ?_
          refine lv_icmp_eq (tgt := 64) hx hb dX4_tryLetter_46 (by decide) (fun c_16 => ?_) (fun c_16 => ?_)
          · skip
            refine lv_aload_n hx hb dX4_tryLetter_64 rfl (lv_at hl 3 rfl) ?_
            refine va_get (ci := 4) (v := .ref (h 11)) (C := RX4) (T := TX4) (N := 6) hx hb hts hinX4 hown hK hP 0 rfl rfl 3 (by decide) (hts (.fieldLink RX4 31 "TypingTutor" "current" "LTypingTutor$Lesson;") (List.mem_of_getElem? (i := 1) rfl)) (fun _ h9 => h9) rfl dX4_tryLetter_65 ?_
            refine lv_iload_n hx hb dX4_tryLetter_68 rfl (lv_at hl 2 rfl) ?_
            refine zcv (zrV (As := [.int 1]) (rest := []) ⟨hx, hb, hml, hown, hts⟩ (zV 11 hP hD hK hE hB hS rfl rfl) (c_X2_goOn_1  ) (cwV 1 hts gX4_tryLetter_X2_goOn rfl rfl rfl hdv_X2_goOn ⟨Nat.le_of_ble_eq_true rfl, Nat.le_of_ble_eq_true rfl⟩) rfl rfl hl.1 rfl (lv_room (Nat.le_of_ble_eq_true rfl)) dX4_tryLetter_69 ⟨Nat.le_of_ble_eq_true rfl, Nat.le_of_ble_eq_true rfl⟩) hS (fun H locs hP hD hS => ?_)
            have hP : va_P D vwCl (zWT cI cJ h (n, L) ((zkt kt x), (zkm true km x), (zkl true kl x time)) (pt, pm, pl) (nu, le, ow, fo, run, wc, lc, (tr + 1), (cl + 1), tm, 0) (yl, yc, yt, co, pa, su, sc) mc ++ R) _ := hP
            have hD : va_D (zAb B) (zWT cI cJ h (n, L) ((zkt kt x), (zkm true km x), (zkl true kl x time)) (pt, pm, pl) (nu, le, ow, fo, run, wc, lc, (tr + 1), (cl + 1), tm, 0) (yl, yc, yt, co, pa, su, sc) mc ++ R) := hD
            refine lv_aload_n hx hb dX4_tryLetter_72 rfl (lv_at hl 3 rfl) ?_
            refine va_get (ci := 4) (v := .ref (h 11)) (C := RX4) (T := TX4) (N := 6) hx hb hts hinX4 hown hK hP 0 rfl rfl 3 (by decide) (hts (.fieldLink RX4 31 "TypingTutor" "current" "LTypingTutor$Lesson;") (List.mem_of_getElem? (i := 1) rfl)) (fun _ h9 => h9) rfl dX4_tryLetter_73 ?_
            refine zci (zrV (As := []) (rest := []) ⟨hx, hb, hml, hown, hts⟩ (zV 11 hP hD hK hE hB hS rfl rfl) (c_X2_triedTotal  ) (cwV 0 hts gX4_tryLetter_X2_triedTotal rfl rfl rfl hdv_X2_triedTotal ⟨Nat.le_of_ble_eq_true rfl, Nat.le_of_ble_eq_true rfl⟩) rfl rfl hl.1 rfl (lv_room (Nat.le_of_ble_eq_true rfl)) dX4_tryLetter_76 ⟨Nat.le_of_ble_eq_true rfl, Nat.le_of_ble_eq_true rfl⟩) hS (fun H locs hP hD hS => ?_)
            have hP : va_P D vwCl (zWT cI cJ h (n, L) ((zkt kt x), (zkm true km x), (zkl true kl x time)) (pt, pm, pl) (nu, le, ow, fo, run, wc, lc, (tr + 1), (cl + 1), tm, 0) (yl, yc, yt, co, pa, su, sc) mc ++ R) _ := hP
            have hD : va_D (zAb B) (zWT cI cJ h (n, L) ((zkt kt x), (zkm true km x), (zkl true kl x time)) (pt, pm, pl) (nu, le, ow, fo, run, wc, lc, (tr + 1), (cl + 1), tm, 0) (yl, yc, yt, co, pa, su, sc) mc ++ R) := hD
            refine lv_aload_n hx hb dX4_tryLetter_79 rfl (lv_at hl 3 rfl) ?_
            refine va_get (ci := 4) (v := .ref (h 11)) (C := RX4) (T := TX4) (N := 6) hx hb hts hinX4 hown hK hP 0 rfl rfl 3 (by decide) (hts (.fieldLink RX4 31 "TypingTutor" "current" "LTypingTutor$Lesson;") (List.mem_of_getElem? (i := 1) rfl)) (fun _ h9 => h9) rfl dX4_tryLetter_80 ?_
            refine zci (zrV (As := []) (rest := [.int (nI (tr + 1))]) ⟨hx, hb, hml, hown, hts⟩ (zV 11 hP hD hK hE hB hS rfl rfl) (c_X2_letterTotal  ) (cwV 0 hts gX4_tryLetter_X2_letterTotal rfl rfl rfl hdv_X2_letterTotal ⟨Nat.le_of_ble_eq_true rfl, Nat.le_of_ble_eq_true rfl⟩) rfl rfl hl.1 rfl (lv_room (Nat.le_of_ble_eq_true rfl)) dX4_tryLetter_83 ⟨Nat.le_of_ble_eq_true rfl, Nat.le_of_ble_eq_true rfl⟩) hS (fun H locs hP hD hS => ?_)
            have hP : va_P D vwCl (zWT cI cJ h (n, L) ((zkt kt x), (zkm true km x), (zkl true kl x time)) (pt, pm, pl) (nu, le, ow, fo, run, wc, lc, (tr + 1), (cl + 1), tm, 0) (yl, yc, yt, co, pa, su, sc) mc ++ R) _ := hP
            have hD : va_D (zAb B) (zWT cI cJ h (n, L) ((zkt kt x), (zkm true km x), (zkl true kl x time)) (pt, pm, pl) (nu, le, ow, fo, run, wc, lc, (tr + 1), (cl + 1), tm, 0) (yl, yc, yt, co, pa, su, sc) mc ++ R) := hD
            refine lv_icmp_lt (tgt := 124) hx hb dX4_tryLetter_86 (by decide) (fun c_17 => ?_) (fun c_17 => ?_)
            · skip
              have c_17 : (tr + 1) < lc := (nI_ltI (a := (tr + 1)) (b := lc) (by omega) (by omega)).mp c_17
              exact W.vret hx hb hr (fun t ht hW => ⟨⟨(), rfl, trivial, by rw [ht]; exact hP, hD⟩, hS.F ht⟩) hS.2.2 dX4_tryLetter_124
            · skip
              have c_17 : ¬ (tr + 1) < lc := fun hh => c_17 ((nI_ltI (a := (tr + 1)) (b := lc) (by omega) (by omega)).mpr hh)
              refine lv_aload_n hx hb dX4_tryLetter_89 rfl (lv_at hl 3 rfl) ?_
              refine va_get (ci := 4) (v := .ref (h 11)) (C := RX4) (T := TX4) (N := 6) hx hb hts hinX4 hown hK hP 0 rfl rfl 3 (by decide) (hts (.fieldLink RX4 31 "TypingTutor" "current" "LTypingTutor$Lesson;") (List.mem_of_getElem? (i := 1) rfl)) (fun _ h9 => h9) rfl dX4_tryLetter_90 ?_
              refine zcv (zrV (As := []) (rest := []) ⟨hx, hb, hml, hown, hts⟩ (zV 11 hP hD hK hE hB hS rfl rfl) (c_X2_stop  ) (cwV 0 hts gX4_tryLetter_X2_stop rfl rfl rfl hdv_X2_stop ⟨Nat.le_of_ble_eq_true rfl, Nat.le_of_ble_eq_true rfl⟩) rfl rfl hl.1 rfl (lv_room (Nat.le_of_ble_eq_true rfl)) dX4_tryLetter_93 ⟨Nat.le_of_ble_eq_true rfl, Nat.le_of_ble_eq_true rfl⟩) hS (fun H locs hP hD hS => ?_)
              have hP : va_P D vwCl (zWT cI cJ h (n, L) ((zkt kt x), (zkm true km x), (zkl true kl x time)) (pt, pm, pl) (nu, le, ow, fo, false, wc, lc, (tr + 1), (cl + 1), tm, 0) (yl, yc, yt, co, pa, su, sc) mc ++ R) _ := hP
              have hD : va_D (zAb B) (zWT cI cJ h (n, L) ((zkt kt x), (zkm true km x), (zkl true kl x time)) (pt, pm, pl) (nu, le, ow, fo, false, wc, lc, (tr + 1), (cl + 1), tm, 0) (yl, yc, yt, co, pa, su, sc) mc ++ R) := hD
              refine lv_aload_n hx hb dX4_tryLetter_96 rfl (lv_at hl 3 rfl) ?_
              refine va_get (ci := 4) (v := .ref (h 16)) (C := RX4) (T := TX4) (N := 6) hx hb hts hinX4 hown hK hP 0 rfl rfl 4 (by decide) (hts (.fieldLink RX4 38 "TypingTutor" "past" "LTypingTutor$History;") (List.mem_of_getElem? (i := 4) rfl)) (fun _ h9 => h9) rfl dX4_tryLetter_97 ?_
              refine lv_aload_n hx hb dX4_tryLetter_100 rfl (lv_at hl 3 rfl) ?_
              refine va_get (ci := 4) (v := .ref (h 11)) (C := RX4) (T := TX4) (N := 6) hx hb hts hinX4 hown hK hP 0 rfl rfl 3 (by decide) (hts (.fieldLink RX4 31 "TypingTutor" "current" "LTypingTutor$Lesson;") (List.mem_of_getElem? (i := 1) rfl)) (fun _ h9 => h9) rfl dX4_tryLetter_101 ?_
              refine zci (zrV (As := []) (rest := [.ref (h 16)]) ⟨hx, hb, hml, hown, hts⟩ (zV 11 hP hD hK hE hB hS rfl rfl) (c_X2_letterTotal  ) (cwV 0 hts gX4_tryLetter_X2_letterTotal rfl rfl rfl hdv_X2_letterTotal ⟨Nat.le_of_ble_eq_true rfl, Nat.le_of_ble_eq_true rfl⟩) rfl rfl hl.1 rfl (lv_room (Nat.le_of_ble_eq_true rfl)) dX4_tryLetter_104 ⟨Nat.le_of_ble_eq_true rfl, Nat.le_of_ble_eq_true rfl⟩) hS (fun H locs hP hD hS => ?_)
              have hP : va_P D vwCl (zWT cI cJ h (n, L) ((zkt kt x), (zkm true km x), (zkl true kl x time)) (pt, pm, pl) (nu, le, ow, fo, false, wc, lc, (tr + 1), (cl + 1), tm, 0) (yl, yc, yt, co, pa, su, sc) mc ++ R) _ := hP
              have hD : va_D (zAb B) (zWT cI cJ h (n, L) ((zkt kt x), (zkm true km x), (zkl true kl x time)) (pt, pm, pl) (nu, le, ow, fo, false, wc, lc, (tr + 1), (cl + 1), tm, 0) (yl, yc, yt, co, pa, su, sc) mc ++ R) := hD
              refine lv_aload_n hx hb dX4_tryLetter_107 rfl (lv_at hl 3 rfl) ?_
              refine va_get (ci := 4) (v := .ref (h 11)) (C := RX4) (T := TX4) (N := 6) hx hb hts hinX4 hown hK hP 0 rfl rfl 3 (by decide) (hts (.fieldLink RX4 31 "TypingTutor" "current" "LTypingTutor$Lesson;") (List.mem_of_getElem? (i := 1) rfl)) (fun _ h9 => h9) rfl dX4_tryLetter_108 ?_
              refine zci (zrV (As := []) (rest := [.int (nI lc), .ref (h 16)]) ⟨hx, hb, hml, hown, hts⟩ (zV 11 hP hD hK hE hB hS rfl rfl) (c_X2_cleanTotal  ) (cwV 0 hts gX4_tryLetter_X2_cleanTotal rfl rfl rfl hdv_X2_cleanTotal ⟨Nat.le_of_ble_eq_true rfl, Nat.le_of_ble_eq_true rfl⟩) rfl rfl hl.1 rfl (lv_room (Nat.le_of_ble_eq_true rfl)) dX4_tryLetter_111 ⟨Nat.le_of_ble_eq_true rfl, Nat.le_of_ble_eq_true rfl⟩) hS (fun H locs hP hD hS => ?_)
              have hP : va_P D vwCl (zWT cI cJ h (n, L) ((zkt kt x), (zkm true km x), (zkl true kl x time)) (pt, pm, pl) (nu, le, ow, fo, false, wc, lc, (tr + 1), (cl + 1), tm, 0) (yl, yc, yt, co, pa, su, sc) mc ++ R) _ := hP
              have hD : va_D (zAb B) (zWT cI cJ h (n, L) ((zkt kt x), (zkm true km x), (zkl true kl x time)) (pt, pm, pl) (nu, le, ow, fo, false, wc, lc, (tr + 1), (cl + 1), tm, 0) (yl, yc, yt, co, pa, su, sc) mc ++ R) := hD
              refine lv_aload_n hx hb dX4_tryLetter_114 rfl (lv_at hl 3 rfl) ?_
              refine va_get (ci := 4) (v := .ref (h 11)) (C := RX4) (T := TX4) (N := 6) hx hb hts hinX4 hown hK hP 0 rfl rfl 3 (by decide) (hts (.fieldLink RX4 31 "TypingTutor" "current" "LTypingTutor$Lesson;") (List.mem_of_getElem? (i := 1) rfl)) (fun _ h9 => h9) rfl dX4_tryLetter_115 ?_
              refine zci (zrV (As := []) (rest := [.int (nI (cl + 1)), .int (nI lc), .ref (h 16)]) ⟨hx, hb, hml, hown, hts⟩ (zV 11 hP hD hK hE hB hS rfl rfl) (c_X2_timeSum  ) (cwV 0 hts gX4_tryLetter_X2_timeSum rfl rfl rfl hdv_X2_timeSum ⟨Nat.le_of_ble_eq_true rfl, Nat.le_of_ble_eq_true rfl⟩) rfl rfl hl.1 rfl (lv_room (Nat.le_of_ble_eq_true rfl)) dX4_tryLetter_118 ⟨Nat.le_of_ble_eq_true rfl, Nat.le_of_ble_eq_true rfl⟩) hS (fun H locs hP hD hS => ?_)
              have hP : va_P D vwCl (zWT cI cJ h (n, L) ((zkt kt x), (zkm true km x), (zkl true kl x time)) (pt, pm, pl) (nu, le, ow, fo, false, wc, lc, (tr + 1), (cl + 1), tm, 0) (yl, yc, yt, co, pa, su, sc) mc ++ R) _ := hP
              have hD : va_D (zAb B) (zWT cI cJ h (n, L) ((zkt kt x), (zkm true km x), (zkl true kl x time)) (pt, pm, pl) (nu, le, ow, fo, false, wc, lc, (tr + 1), (cl + 1), tm, 0) (yl, yc, yt, co, pa, su, sc) mc ++ R) := hD
              refine zcv (zrV (As := [.int (nI lc), .int (nI (cl + 1)), .int (nI tm)]) (rest := []) ⟨hx, hb, hml, hown, hts⟩ (zV 16 hP hD hK hE hB hS rfl rfl) (c_X0_keep (lt := lc) (ct := (cl + 1)) (ts := tm) (by omega) (by omega) (by omega)) (cwV 3 hts gX4_tryLetter_X0_keep rfl rfl rfl hdv_X0_keep ⟨Nat.le_of_ble_eq_true rfl, Nat.le_of_ble_eq_true rfl⟩) rfl rfl hl.1 rfl (lv_room (Nat.le_of_ble_eq_true rfl)) dX4_tryLetter_121 ⟨Nat.le_of_ble_eq_true rfl, Nat.le_of_ble_eq_true rfl⟩) hS (fun H locs hP hD hS => ?_)
              have hP : va_P D vwCl (zWT cI cJ h (n, L) ((zkt kt x), (zkm true km x), (zkl true kl x time)) (pt, pm, pl) (nu, le, ow, fo, false, wc, lc, (tr + 1), (cl + 1), tm, 0) ((upd yl co (nI lc)), (upd yc co (nI (cl + 1))), (upd yt co (nI tm)), (co + 1), (zpc pa lc (cl + 1)), (su + lc), (sc + (cl + 1))) mc ++ R) _ := hP
              have hD : va_D (zAb B) (zWT cI cJ h (n, L) ((zkt kt x), (zkm true km x), (zkl true kl x time)) (pt, pm, pl) (nu, le, ow, fo, false, wc, lc, (tr + 1), (cl + 1), tm, 0) ((upd yl co (nI lc)), (upd yc co (nI (cl + 1))), (upd yt co (nI tm)), (co + 1), (zpc pa lc (cl + 1)), (su + lc), (sc + (cl + 1))) mc ++ R) := hD
              exact W.vret hx hb hr (fun t ht hW => ⟨⟨(), rfl, trivial, by rw [ht]; exact hP, hD⟩, hS.F ht⟩) hS.2.2 dX4_tryLetter_124
          · skip
            exfalso; first | omega | (revert c_16; decide) | (exact absurd rfl c_16) | simp_all
      | false =>
        refine Met.ofW (cc := cX4_tryLetter) (maxL := 5) (ret := none) (by decide) rfl ?_
        intro p e s m args below meth c s₁ B0 hml hv
        obtain ⟨rfl, hP, hD, hK, hE, hB⟩ := hv
        have hx := B0.exec
        have hb := B0.bytes
        have hr := B0.returns
        have hts := atoms_spec (ws := wsX4_tryLetter) B0.pre
        have hown : s.vm.findClass RX4 = some m.cls := findClass_of_methodNamed B0.named
        have hlocks := B0.notSynchronized
        have hA : ∀ q : Nat, s.heap.size ≤ q → zAb B q := fun q hq => Nat.le_trans hB hq
        have hS : va_S (zAb B) s.heap s.heap [] := va_S.rf
        have hl := lv_entry ([.ref (h 0), .int time]) (n := 5) (Nat.le_of_ble_eq_true rfl)
        rw [lg_entry_eq]
        generalize (lg_sl ([.ref (h 0), .int time]) ++ List.replicate (5 - (lg_sl ([.ref (h 0), .int time])).length) Slot.unset).toArray = ls at hl ⊢
        have hl : lv_has ls 5 [(0, .ref (h 0)), (1, .int time)] := hl
        have hinX4 : ∀ w ∈ wsX40, w ∈ wsX4_tryLetter := fun _ h => List.mem_cons_of_mem _ (List.mem_append_left _ (List.mem_append_left _ (List.mem_append_left _ (List.mem_append_right _ h))))
        have hP : va_P D vwCl (zWT cI cJ h (n, L) (kt, km, kl) (pt, pm, pl) (nu, le, ow, fo, run, wc, lc, tr, cl, tm, (ms9 + 1)) (yl, yc, yt, co, pa, su, sc) mc ++ R) s.heap := hP
        have hD : va_D (zAb B) (zWT cI cJ h (n, L) (kt, km, kl) (pt, pm, pl) (nu, le, ow, fo, run, wc, lc, tr, cl, tm, (ms9 + 1)) (yl, yc, yt, co, pa, su, sc) mc ++ R) := hD
        have hf : tr + 1 < lc := hf
        refine lv_aload_n hx hb dX4_tryLetter_0 rfl (lv_at hl 0 rfl) ?_
        refine va_get (ci := 4) (v := .ref (h 11)) (C := RX4) (T := TX4) (N := 6) hx hb hts hinX4 hown hK hP 0 rfl rfl 3 (by decide) (hts (.fieldLink RX4 31 "TypingTutor" "current" "LTypingTutor$Lesson;") (List.mem_of_getElem? (i := 1) rfl)) (fun _ h9 => h9) rfl dX4_tryLetter_1 ?_
        refine zci (zrV (As := []) (rest := []) ⟨hx, hb, hml, hown, hts⟩ (zV 11 hP hD hK hE hB hS rfl rfl) (c_X2_mistakesHere  ) (cwV 0 hts gX4_tryLetter_X2_mistakesHere rfl rfl rfl hdv_X2_mistakesHere ⟨Nat.le_of_ble_eq_true rfl, Nat.le_of_ble_eq_true rfl⟩) rfl rfl hl.1 rfl (lv_room (Nat.le_of_ble_eq_true rfl)) dX4_tryLetter_4 ⟨Nat.le_of_ble_eq_true rfl, Nat.le_of_ble_eq_true rfl⟩) hS (fun H locs hP hD hS => ?_)
        have hP : va_P D vwCl (zWT cI cJ h (n, L) (kt, km, kl) (pt, pm, pl) (nu, le, ow, fo, run, wc, lc, tr, cl, tm, (ms9 + 1)) (yl, yc, yt, co, pa, su, sc) mc ++ R) _ := hP
        have hD : va_D (zAb B) (zWT cI cJ h (n, L) (kt, km, kl) (pt, pm, pl) (nu, le, ow, fo, run, wc, lc, tr, cl, tm, (ms9 + 1)) (yl, yc, yt, co, pa, su, sc) mc ++ R) := hD
        refine lv_if_ne (tgt := 14) hx hb dX4_tryLetter_7 (by decide) (fun c_18 => ?_) (fun c_18 => ?_)
        · skip
          have c_18 : ¬ (ms9 + 1) = 0 := fun hh => c_18 ((nI_eq (a := (ms9 + 1)) (b := 0) (by omega) (by omega)).mpr hh)
          refine lv_iconst (v := 0) hx hb dX4_tryLetter_14 (by decide) ?_
          refine lv_istore_n (lv' := [(2, .int 0), (0, .ref (h 0)), (1, .int time)]) hx hb dX4_tryLetter_15 rfl hl (by decide) rfl (fun ls hl => ?_)
          refine lv_aload_n hx hb dX4_tryLetter_16 rfl (lv_at hl 1 rfl) ?_
          refine va_get (ci := 4) (v := .ref (h 11)) (C := RX4) (T := TX4) (N := 6) hx hb hts hinX4 hown hK hP 0 rfl rfl 3 (by decide) (hts (.fieldLink RX4 31 "TypingTutor" "current" "LTypingTutor$Lesson;") (List.mem_of_getElem? (i := 1) rfl)) (fun _ h9 => h9) rfl dX4_tryLetter_17 ?_
          refine zci (zrV (As := []) (rest := []) ⟨hx, hb, hml, hown, hts⟩ (zV 11 hP hD hK hE hB hS rfl rfl) (c_X2_letterHere  (by omega)) (cwV 0 hts gX4_tryLetter_X2_letterHere rfl rfl rfl hdv_X2_letterHere ⟨Nat.le_of_ble_eq_true rfl, Nat.le_of_ble_eq_true rfl⟩) rfl rfl hl.1 rfl (lv_room (Nat.le_of_ble_eq_true rfl)) dX4_tryLetter_20 ⟨Nat.le_of_ble_eq_true rfl, Nat.le_of_ble_eq_true rfl⟩) hS (fun H locs hP hD hS => ?_)
          have hP : va_P D vwCl (zWT cI cJ h (n, L) (kt, km, kl) (pt, pm, pl) (nu, le, ow, fo, run, wc, lc, tr, cl, tm, (ms9 + 1)) (yl, yc, yt, co, pa, su, sc) mc ++ R) _ := hP
          have hD : va_D (zAb B) (zWT cI cJ h (n, L) (kt, km, kl) (pt, pm, pl) (nu, le, ow, fo, run, wc, lc, tr, cl, tm, (ms9 + 1)) (yl, yc, yt, co, pa, su, sc) mc ++ R) := hD
          rw [show (le tr) = (nI x) from hx9]
          refine lv_istore_n (lv' := [(3, .int (nI x)), (2, .int 0), (0, .ref (h 0)), (1, .int time)]) hx hb dX4_tryLetter_23 rfl hl (by decide) rfl (fun ls hl => ?_)
          refine lv_aload_n hx hb dX4_tryLetter_24 rfl (lv_at hl 2 rfl) ?_
          refine va_get (ci := 4) (v := .ref (h 11)) (C := RX4) (T := TX4) (N := 6) hx hb hts hinX4 hown hK hP 0 rfl rfl 3 (by decide) (hts (.fieldLink RX4 31 "TypingTutor" "current" "LTypingTutor$Lesson;") (List.mem_of_getElem? (i := 1) rfl)) (fun _ h9 => h9) rfl dX4_tryLetter_25 ?_
          refine zci (zrV (As := []) (rest := []) ⟨hx, hb, hml, hown, hts⟩ (zV 11 hP hD hK hE hB hS rfl rfl) (c_X2_letterBefore  (by omega) (by omega)) (cwV 0 hts gX4_tryLetter_X2_letterBefore rfl rfl rfl hdv_X2_letterBefore ⟨Nat.le_of_ble_eq_true rfl, Nat.le_of_ble_eq_true rfl⟩) rfl rfl hl.1 rfl (lv_room (Nat.le_of_ble_eq_true rfl)) dX4_tryLetter_28 ⟨Nat.le_of_ble_eq_true rfl, Nat.le_of_ble_eq_true rfl⟩) hS (fun H locs hP hD hS => ?_)
          have hP : va_P D vwCl (zWT cI cJ h (n, L) (kt, km, kl) (pt, pm, pl) (nu, le, ow, fo, run, wc, lc, tr, cl, tm, (ms9 + 1)) (yl, yc, yt, co, pa, su, sc) mc ++ R) _ := hP
          have hD : va_D (zAb B) (zWT cI cJ h (n, L) (kt, km, kl) (pt, pm, pl) (nu, le, ow, fo, run, wc, lc, tr, cl, tm, (ms9 + 1)) (yl, yc, yt, co, pa, su, sc) mc ++ R) := hD
          rw [show (zis le ow lc tr (nI tr - 1)) = (-1) from ho]
          refine lv_istore (lv' := [(4, .int (-1)), (3, .int (nI x)), (2, .int 0), (0, .ref (h 0)), (1, .int time)]) hx hb dX4_tryLetter_31 hl (by decide) rfl (fun ls hl => ?_)
          refine lv_aload_n hx hb dX4_tryLetter_33 rfl (lv_at hl 3 rfl) ?_
          refine va_get (ci := 4) (v := .ref (h 3)) (C := RX4) (T := TX4) (N := 6) hx hb hts hinX4 hown hK hP 0 rfl rfl 1 (by decide) (hts (.fieldLink RX4 21 "TypingTutor" "keys" "LTypingTutor$Knowledge;") (List.mem_of_getElem? (i := 2) rfl)) (fun _ h9 => h9) rfl dX4_tryLetter_34 ?_
          refine lv_iload_n hx hb dX4_tryLetter_37 rfl (lv_at hl 1 rfl) ?_
          refine lv_iload_n hx hb dX4_tryLetter_38 rfl (lv_at hl 2 rfl) ?_
          refine lv_iload_n hx hb dX4_tryLetter_39 rfl (lv_at hl 4 rfl) ?_
          refine zcv (zrV (As := [.int (nI x), .int 0, .int time]) (rest := []) ⟨hx, hb, hml, hown, hts⟩ (zV 3 hP hD hK hE hB hS rfl rfl) (c_X1_learn_k (k := x) (b := false) (by omega)) (cwV 3 hts gX4_tryLetter_X1_learn rfl rfl rfl hdv_X1_learn ⟨Nat.le_of_ble_eq_true rfl, Nat.le_of_ble_eq_true rfl⟩) rfl rfl hl.1 rfl (lv_room (Nat.le_of_ble_eq_true rfl)) dX4_tryLetter_40 ⟨Nat.le_of_ble_eq_true rfl, Nat.le_of_ble_eq_true rfl⟩) hS (fun H locs hP hD hS => ?_)
          have hP : va_P D vwCl (zWT cI cJ h (n, L) ((zkt kt x), (zkm false km x), (zkl false kl x time)) (pt, pm, pl) (nu, le, ow, fo, run, wc, lc, tr, cl, tm, (ms9 + 1)) (yl, yc, yt, co, pa, su, sc) mc ++ R) _ := hP
          have hD : va_D (zAb B) (zWT cI cJ h (n, L) ((zkt kt x), (zkm false km x), (zkl false kl x time)) (pt, pm, pl) (nu, le, ow, fo, run, wc, lc, tr, cl, tm, (ms9 + 1)) (yl, yc, yt, co, pa, su, sc) mc ++ R) := hD
          refine lv_iload hx hb dX4_tryLetter_43 (lv_at hl 0 rfl) ?_
          refine lv_iconst (v := (-1)) hx hb dX4_tryLetter_45 (by decide) ?_
          refine lv_icmp_eq (tgt := 64) hx hb dX4_tryLetter_46 (by decide) (fun c_19 => ?_) (fun c_19 => ?_)
          · skip
            refine lv_aload_n hx hb dX4_tryLetter_64 rfl (lv_at hl 3 rfl) ?_
            refine va_get (ci := 4) (v := .ref (h 11)) (C := RX4) (T := TX4) (N := 6) hx hb hts hinX4 hown hK hP 0 rfl rfl 3 (by decide) (hts (.fieldLink RX4 31 "TypingTutor" "current" "LTypingTutor$Lesson;") (List.mem_of_getElem? (i := 1) rfl)) (fun _ h9 => h9) rfl dX4_tryLetter_65 ?_
            refine lv_iload_n hx hb dX4_tryLetter_68 rfl (lv_at hl 2 rfl) ?_
            refine zcv (zrV (As := [.int 0]) (rest := []) ⟨hx, hb, hml, hown, hts⟩ (zV 11 hP hD hK hE hB hS rfl rfl) (c_X2_goOn_0  ) (cwV 1 hts gX4_tryLetter_X2_goOn rfl rfl rfl hdv_X2_goOn ⟨Nat.le_of_ble_eq_true rfl, Nat.le_of_ble_eq_true rfl⟩) rfl rfl hl.1 rfl (lv_room (Nat.le_of_ble_eq_true rfl)) dX4_tryLetter_69 ⟨Nat.le_of_ble_eq_true rfl, Nat.le_of_ble_eq_true rfl⟩) hS (fun H locs hP hD hS => ?_)
            have hP : va_P D vwCl (zWT cI cJ h (n, L) ((zkt kt x), (zkm false km x), (zkl false kl x time)) (pt, pm, pl) (nu, le, ow, fo, run, wc, lc, (tr + 1), cl, tm, 0) (yl, yc, yt, co, pa, su, sc) mc ++ R) _ := hP
            have hD : va_D (zAb B) (zWT cI cJ h (n, L) ((zkt kt x), (zkm false km x), (zkl false kl x time)) (pt, pm, pl) (nu, le, ow, fo, run, wc, lc, (tr + 1), cl, tm, 0) (yl, yc, yt, co, pa, su, sc) mc ++ R) := hD
            refine lv_aload_n hx hb dX4_tryLetter_72 rfl (lv_at hl 3 rfl) ?_
            refine va_get (ci := 4) (v := .ref (h 11)) (C := RX4) (T := TX4) (N := 6) hx hb hts hinX4 hown hK hP 0 rfl rfl 3 (by decide) (hts (.fieldLink RX4 31 "TypingTutor" "current" "LTypingTutor$Lesson;") (List.mem_of_getElem? (i := 1) rfl)) (fun _ h9 => h9) rfl dX4_tryLetter_73 ?_
            refine zci (zrV (As := []) (rest := []) ⟨hx, hb, hml, hown, hts⟩ (zV 11 hP hD hK hE hB hS rfl rfl) (c_X2_triedTotal  ) (cwV 0 hts gX4_tryLetter_X2_triedTotal rfl rfl rfl hdv_X2_triedTotal ⟨Nat.le_of_ble_eq_true rfl, Nat.le_of_ble_eq_true rfl⟩) rfl rfl hl.1 rfl (lv_room (Nat.le_of_ble_eq_true rfl)) dX4_tryLetter_76 ⟨Nat.le_of_ble_eq_true rfl, Nat.le_of_ble_eq_true rfl⟩) hS (fun H locs hP hD hS => ?_)
            have hP : va_P D vwCl (zWT cI cJ h (n, L) ((zkt kt x), (zkm false km x), (zkl false kl x time)) (pt, pm, pl) (nu, le, ow, fo, run, wc, lc, (tr + 1), cl, tm, 0) (yl, yc, yt, co, pa, su, sc) mc ++ R) _ := hP
            have hD : va_D (zAb B) (zWT cI cJ h (n, L) ((zkt kt x), (zkm false km x), (zkl false kl x time)) (pt, pm, pl) (nu, le, ow, fo, run, wc, lc, (tr + 1), cl, tm, 0) (yl, yc, yt, co, pa, su, sc) mc ++ R) := hD
            refine lv_aload_n hx hb dX4_tryLetter_79 rfl (lv_at hl 3 rfl) ?_
            refine va_get (ci := 4) (v := .ref (h 11)) (C := RX4) (T := TX4) (N := 6) hx hb hts hinX4 hown hK hP 0 rfl rfl 3 (by decide) (hts (.fieldLink RX4 31 "TypingTutor" "current" "LTypingTutor$Lesson;") (List.mem_of_getElem? (i := 1) rfl)) (fun _ h9 => h9) rfl dX4_tryLetter_80 ?_
            refine zci (zrV (As := []) (rest := [.int (nI (tr + 1))]) ⟨hx, hb, hml, hown, hts⟩ (zV 11 hP hD hK hE hB hS rfl rfl) (c_X2_letterTotal  ) (cwV 0 hts gX4_tryLetter_X2_letterTotal rfl rfl rfl hdv_X2_letterTotal ⟨Nat.le_of_ble_eq_true rfl, Nat.le_of_ble_eq_true rfl⟩) rfl rfl hl.1 rfl (lv_room (Nat.le_of_ble_eq_true rfl)) dX4_tryLetter_83 ⟨Nat.le_of_ble_eq_true rfl, Nat.le_of_ble_eq_true rfl⟩) hS (fun H locs hP hD hS => ?_)
            have hP : va_P D vwCl (zWT cI cJ h (n, L) ((zkt kt x), (zkm false km x), (zkl false kl x time)) (pt, pm, pl) (nu, le, ow, fo, run, wc, lc, (tr + 1), cl, tm, 0) (yl, yc, yt, co, pa, su, sc) mc ++ R) _ := hP
            have hD : va_D (zAb B) (zWT cI cJ h (n, L) ((zkt kt x), (zkm false km x), (zkl false kl x time)) (pt, pm, pl) (nu, le, ow, fo, run, wc, lc, (tr + 1), cl, tm, 0) (yl, yc, yt, co, pa, su, sc) mc ++ R) := hD
            refine lv_icmp_lt (tgt := 124) hx hb dX4_tryLetter_86 (by decide) (fun c_20 => ?_) (fun c_20 => ?_)
            · skip
              have c_20 : (tr + 1) < lc := (nI_ltI (a := (tr + 1)) (b := lc) (by omega) (by omega)).mp c_20
              exact W.vret hx hb hr (fun t ht hW => ⟨⟨(), rfl, trivial, by rw [ht]; exact hP, hD⟩, hS.F ht⟩) hS.2.2 dX4_tryLetter_124
            · skip
              have c_20 : ¬ (tr + 1) < lc := fun hh => c_20 ((nI_ltI (a := (tr + 1)) (b := lc) (by omega) (by omega)).mpr hh)
              refine lv_aload_n hx hb dX4_tryLetter_89 rfl (lv_at hl 3 rfl) ?_
              refine va_get (ci := 4) (v := .ref (h 11)) (C := RX4) (T := TX4) (N := 6) hx hb hts hinX4 hown hK hP 0 rfl rfl 3 (by decide) (hts (.fieldLink RX4 31 "TypingTutor" "current" "LTypingTutor$Lesson;") (List.mem_of_getElem? (i := 1) rfl)) (fun _ h9 => h9) rfl dX4_tryLetter_90 ?_
              refine zcv (zrV (As := []) (rest := []) ⟨hx, hb, hml, hown, hts⟩ (zV 11 hP hD hK hE hB hS rfl rfl) (c_X2_stop  ) (cwV 0 hts gX4_tryLetter_X2_stop rfl rfl rfl hdv_X2_stop ⟨Nat.le_of_ble_eq_true rfl, Nat.le_of_ble_eq_true rfl⟩) rfl rfl hl.1 rfl (lv_room (Nat.le_of_ble_eq_true rfl)) dX4_tryLetter_93 ⟨Nat.le_of_ble_eq_true rfl, Nat.le_of_ble_eq_true rfl⟩) hS (fun H locs hP hD hS => ?_)
              have hP : va_P D vwCl (zWT cI cJ h (n, L) ((zkt kt x), (zkm false km x), (zkl false kl x time)) (pt, pm, pl) (nu, le, ow, fo, false, wc, lc, (tr + 1), cl, tm, 0) (yl, yc, yt, co, pa, su, sc) mc ++ R) _ := hP
              have hD : va_D (zAb B) (zWT cI cJ h (n, L) ((zkt kt x), (zkm false km x), (zkl false kl x time)) (pt, pm, pl) (nu, le, ow, fo, false, wc, lc, (tr + 1), cl, tm, 0) (yl, yc, yt, co, pa, su, sc) mc ++ R) := hD
              refine lv_aload_n hx hb dX4_tryLetter_96 rfl (lv_at hl 3 rfl) ?_
              refine va_get (ci := 4) (v := .ref (h 16)) (C := RX4) (T := TX4) (N := 6) hx hb hts hinX4 hown hK hP 0 rfl rfl 4 (by decide) (hts (.fieldLink RX4 38 "TypingTutor" "past" "LTypingTutor$History;") (List.mem_of_getElem? (i := 4) rfl)) (fun _ h9 => h9) rfl dX4_tryLetter_97 ?_
              refine lv_aload_n hx hb dX4_tryLetter_100 rfl (lv_at hl 3 rfl) ?_
              refine va_get (ci := 4) (v := .ref (h 11)) (C := RX4) (T := TX4) (N := 6) hx hb hts hinX4 hown hK hP 0 rfl rfl 3 (by decide) (hts (.fieldLink RX4 31 "TypingTutor" "current" "LTypingTutor$Lesson;") (List.mem_of_getElem? (i := 1) rfl)) (fun _ h9 => h9) rfl dX4_tryLetter_101 ?_
              refine zci (zrV (As := []) (rest := [.ref (h 16)]) ⟨hx, hb, hml, hown, hts⟩ (zV 11 hP hD hK hE hB hS rfl rfl) (c_X2_letterTotal  ) (cwV 0 hts gX4_tryLetter_X2_letterTotal rfl rfl rfl hdv_X2_letterTotal ⟨Nat.le_of_ble_eq_true rfl, Nat.le_of_ble_eq_true rfl⟩) rfl rfl hl.1 rfl (lv_room (Nat.le_of_ble_eq_true rfl)) dX4_tryLetter_104 ⟨Nat.le_of_ble_eq_true rfl, Nat.le_of_ble_eq_true rfl⟩) hS (fun H locs hP hD hS => ?_)
              have hP : va_P D vwCl (zWT cI cJ h (n, L) ((zkt kt x), (zkm false km x), (zkl false kl x time)) (pt, pm, pl) (nu, le, ow, fo, false, wc, lc, (tr + 1), cl, tm, 0) (yl, yc, yt, co, pa, su, sc) mc ++ R) _ := hP
              have hD : va_D (zAb B) (zWT cI cJ h (n, L) ((zkt kt x), (zkm false km x), (zkl false kl x time)) (pt, pm, pl) (nu, le, ow, fo, false, wc, lc, (tr + 1), cl, tm, 0) (yl, yc, yt, co, pa, su, sc) mc ++ R) := hD
              refine lv_aload_n hx hb dX4_tryLetter_107 rfl (lv_at hl 3 rfl) ?_
              refine va_get (ci := 4) (v := .ref (h 11)) (C := RX4) (T := TX4) (N := 6) hx hb hts hinX4 hown hK hP 0 rfl rfl 3 (by decide) (hts (.fieldLink RX4 31 "TypingTutor" "current" "LTypingTutor$Lesson;") (List.mem_of_getElem? (i := 1) rfl)) (fun _ h9 => h9) rfl dX4_tryLetter_108 ?_
              refine zci (zrV (As := []) (rest := [.int (nI lc), .ref (h 16)]) ⟨hx, hb, hml, hown, hts⟩ (zV 11 hP hD hK hE hB hS rfl rfl) (c_X2_cleanTotal  ) (cwV 0 hts gX4_tryLetter_X2_cleanTotal rfl rfl rfl hdv_X2_cleanTotal ⟨Nat.le_of_ble_eq_true rfl, Nat.le_of_ble_eq_true rfl⟩) rfl rfl hl.1 rfl (lv_room (Nat.le_of_ble_eq_true rfl)) dX4_tryLetter_111 ⟨Nat.le_of_ble_eq_true rfl, Nat.le_of_ble_eq_true rfl⟩) hS (fun H locs hP hD hS => ?_)
              have hP : va_P D vwCl (zWT cI cJ h (n, L) ((zkt kt x), (zkm false km x), (zkl false kl x time)) (pt, pm, pl) (nu, le, ow, fo, false, wc, lc, (tr + 1), cl, tm, 0) (yl, yc, yt, co, pa, su, sc) mc ++ R) _ := hP
              have hD : va_D (zAb B) (zWT cI cJ h (n, L) ((zkt kt x), (zkm false km x), (zkl false kl x time)) (pt, pm, pl) (nu, le, ow, fo, false, wc, lc, (tr + 1), cl, tm, 0) (yl, yc, yt, co, pa, su, sc) mc ++ R) := hD
              refine lv_aload_n hx hb dX4_tryLetter_114 rfl (lv_at hl 3 rfl) ?_
              refine va_get (ci := 4) (v := .ref (h 11)) (C := RX4) (T := TX4) (N := 6) hx hb hts hinX4 hown hK hP 0 rfl rfl 3 (by decide) (hts (.fieldLink RX4 31 "TypingTutor" "current" "LTypingTutor$Lesson;") (List.mem_of_getElem? (i := 1) rfl)) (fun _ h9 => h9) rfl dX4_tryLetter_115 ?_
              refine zci (zrV (As := []) (rest := [.int (nI cl), .int (nI lc), .ref (h 16)]) ⟨hx, hb, hml, hown, hts⟩ (zV 11 hP hD hK hE hB hS rfl rfl) (c_X2_timeSum  ) (cwV 0 hts gX4_tryLetter_X2_timeSum rfl rfl rfl hdv_X2_timeSum ⟨Nat.le_of_ble_eq_true rfl, Nat.le_of_ble_eq_true rfl⟩) rfl rfl hl.1 rfl (lv_room (Nat.le_of_ble_eq_true rfl)) dX4_tryLetter_118 ⟨Nat.le_of_ble_eq_true rfl, Nat.le_of_ble_eq_true rfl⟩) hS (fun H locs hP hD hS => ?_)
              have hP : va_P D vwCl (zWT cI cJ h (n, L) ((zkt kt x), (zkm false km x), (zkl false kl x time)) (pt, pm, pl) (nu, le, ow, fo, false, wc, lc, (tr + 1), cl, tm, 0) (yl, yc, yt, co, pa, su, sc) mc ++ R) _ := hP
              have hD : va_D (zAb B) (zWT cI cJ h (n, L) ((zkt kt x), (zkm false km x), (zkl false kl x time)) (pt, pm, pl) (nu, le, ow, fo, false, wc, lc, (tr + 1), cl, tm, 0) (yl, yc, yt, co, pa, su, sc) mc ++ R) := hD
              refine zcv (zrV (As := [.int (nI lc), .int (nI cl), .int (nI tm)]) (rest := []) ⟨hx, hb, hml, hown, hts⟩ (zV 16 hP hD hK hE hB hS rfl rfl) (c_X0_keep (lt := lc) (ct := cl) (ts := tm) (by omega) (by omega) (by omega)) (cwV 3 hts gX4_tryLetter_X0_keep rfl rfl rfl hdv_X0_keep ⟨Nat.le_of_ble_eq_true rfl, Nat.le_of_ble_eq_true rfl⟩) rfl rfl hl.1 rfl (lv_room (Nat.le_of_ble_eq_true rfl)) dX4_tryLetter_121 ⟨Nat.le_of_ble_eq_true rfl, Nat.le_of_ble_eq_true rfl⟩) hS (fun H locs hP hD hS => ?_)
              have hP : va_P D vwCl (zWT cI cJ h (n, L) ((zkt kt x), (zkm false km x), (zkl false kl x time)) (pt, pm, pl) (nu, le, ow, fo, false, wc, lc, (tr + 1), cl, tm, 0) ((upd yl co (nI lc)), (upd yc co (nI cl)), (upd yt co (nI tm)), (co + 1), (zpc pa lc cl), (su + lc), (sc + cl)) mc ++ R) _ := hP
              have hD : va_D (zAb B) (zWT cI cJ h (n, L) ((zkt kt x), (zkm false km x), (zkl false kl x time)) (pt, pm, pl) (nu, le, ow, fo, false, wc, lc, (tr + 1), cl, tm, 0) ((upd yl co (nI lc)), (upd yc co (nI cl)), (upd yt co (nI tm)), (co + 1), (zpc pa lc cl), (su + lc), (sc + cl)) mc ++ R) := hD
              exact W.vret hx hb hr (fun t ht hW => ⟨⟨(), rfl, trivial, by rw [ht]; exact hP, hD⟩, hS.F ht⟩) hS.2.2 dX4_tryLetter_124
          · skip
            exfalso; first | omega | (revert c_19; decide) | (exact absurd rfl c_19) | simp_all
        · skip
          have c_18 : (ms9 + 1) = 0 := (nI_eq (a := (ms9 + 1)) (b := 0) (by omega) (by omega)).mp c_18
          refine lv_iconst (v := 1) hx hb dX4_tryLetter_10 (by decide) ?_
          refine lv_goto (tgt := 15) hx hb dX4_tryLetter_11 (by decide) ?_
          refine lv_istore_n (lv' := [(2, .int 1), (0, .ref (h 0)), (1, .int time)]) hx hb dX4_tryLetter_15 rfl hl (by decide) rfl (fun ls hl => ?_)
          refine lv_aload_n hx hb dX4_tryLetter_16 rfl (lv_at hl 1 rfl) ?_
          refine va_get (ci := 4) (v := .ref (h 11)) (C := RX4) (T := TX4) (N := 6) hx hb hts hinX4 hown hK hP 0 rfl rfl 3 (by decide) (hts (.fieldLink RX4 31 "TypingTutor" "current" "LTypingTutor$Lesson;") (List.mem_of_getElem? (i := 1) rfl)) (fun _ h9 => h9) rfl dX4_tryLetter_17 ?_
          refine zci (zrV (As := []) (rest := []) ⟨hx, hb, hml, hown, hts⟩ (zV 11 hP hD hK hE hB hS rfl rfl) (c_X2_letterHere  (by omega)) (cwV 0 hts gX4_tryLetter_X2_letterHere rfl rfl rfl hdv_X2_letterHere ⟨Nat.le_of_ble_eq_true rfl, Nat.le_of_ble_eq_true rfl⟩) rfl rfl hl.1 rfl (lv_room (Nat.le_of_ble_eq_true rfl)) dX4_tryLetter_20 ⟨Nat.le_of_ble_eq_true rfl, Nat.le_of_ble_eq_true rfl⟩) hS (fun H locs hP hD hS => ?_)
          have hP : va_P D vwCl (zWT cI cJ h (n, L) (kt, km, kl) (pt, pm, pl) (nu, le, ow, fo, run, wc, lc, tr, cl, tm, (ms9 + 1)) (yl, yc, yt, co, pa, su, sc) mc ++ R) _ := hP
          have hD : va_D (zAb B) (zWT cI cJ h (n, L) (kt, km, kl) (pt, pm, pl) (nu, le, ow, fo, run, wc, lc, tr, cl, tm, (ms9 + 1)) (yl, yc, yt, co, pa, su, sc) mc ++ R) := hD
          rw [show (le tr) = (nI x) from hx9]
          refine lv_istore_n (lv' := [(3, .int (nI x)), (2, .int 1), (0, .ref (h 0)), (1, .int time)]) hx hb dX4_tryLetter_23 rfl hl (by decide) rfl (fun ls hl => ?_)
          refine lv_aload_n hx hb dX4_tryLetter_24 rfl (lv_at hl 2 rfl) ?_
          refine va_get (ci := 4) (v := .ref (h 11)) (C := RX4) (T := TX4) (N := 6) hx hb hts hinX4 hown hK hP 0 rfl rfl 3 (by decide) (hts (.fieldLink RX4 31 "TypingTutor" "current" "LTypingTutor$Lesson;") (List.mem_of_getElem? (i := 1) rfl)) (fun _ h9 => h9) rfl dX4_tryLetter_25 ?_
          refine zci (zrV (As := []) (rest := []) ⟨hx, hb, hml, hown, hts⟩ (zV 11 hP hD hK hE hB hS rfl rfl) (c_X2_letterBefore  (by omega) (by omega)) (cwV 0 hts gX4_tryLetter_X2_letterBefore rfl rfl rfl hdv_X2_letterBefore ⟨Nat.le_of_ble_eq_true rfl, Nat.le_of_ble_eq_true rfl⟩) rfl rfl hl.1 rfl (lv_room (Nat.le_of_ble_eq_true rfl)) dX4_tryLetter_28 ⟨Nat.le_of_ble_eq_true rfl, Nat.le_of_ble_eq_true rfl⟩) hS (fun H locs hP hD hS => ?_)
          have hP : va_P D vwCl (zWT cI cJ h (n, L) (kt, km, kl) (pt, pm, pl) (nu, le, ow, fo, run, wc, lc, tr, cl, tm, (ms9 + 1)) (yl, yc, yt, co, pa, su, sc) mc ++ R) _ := hP
          have hD : va_D (zAb B) (zWT cI cJ h (n, L) (kt, km, kl) (pt, pm, pl) (nu, le, ow, fo, run, wc, lc, tr, cl, tm, (ms9 + 1)) (yl, yc, yt, co, pa, su, sc) mc ++ R) := hD
          rw [show (zis le ow lc tr (nI tr - 1)) = (-1) from ho]
          refine lv_istore (lv' := [(4, .int (-1)), (3, .int (nI x)), (2, .int 1), (0, .ref (h 0)), (1, .int time)]) hx hb dX4_tryLetter_31 hl (by decide) rfl (fun ls hl => ?_)
          refine lv_aload_n hx hb dX4_tryLetter_33 rfl (lv_at hl 3 rfl) ?_
          refine va_get (ci := 4) (v := .ref (h 3)) (C := RX4) (T := TX4) (N := 6) hx hb hts hinX4 hown hK hP 0 rfl rfl 1 (by decide) (hts (.fieldLink RX4 21 "TypingTutor" "keys" "LTypingTutor$Knowledge;") (List.mem_of_getElem? (i := 2) rfl)) (fun _ h9 => h9) rfl dX4_tryLetter_34 ?_
          refine lv_iload_n hx hb dX4_tryLetter_37 rfl (lv_at hl 1 rfl) ?_
          refine lv_iload_n hx hb dX4_tryLetter_38 rfl (lv_at hl 2 rfl) ?_
          refine lv_iload_n hx hb dX4_tryLetter_39 rfl (lv_at hl 4 rfl) ?_
          refine zcv (zrV (As := [.int (nI x), .int 1, .int time]) (rest := []) ⟨hx, hb, hml, hown, hts⟩ (zV 3 hP hD hK hE hB hS rfl rfl) (c_X1_learn_k (k := x) (b := true) (by omega)) (cwV 3 hts gX4_tryLetter_X1_learn rfl rfl rfl hdv_X1_learn ⟨Nat.le_of_ble_eq_true rfl, Nat.le_of_ble_eq_true rfl⟩) rfl rfl hl.1 rfl (lv_room (Nat.le_of_ble_eq_true rfl)) dX4_tryLetter_40 ⟨Nat.le_of_ble_eq_true rfl, Nat.le_of_ble_eq_true rfl⟩) hS (fun H locs hP hD hS => ?_)
          have hP : va_P D vwCl (zWT cI cJ h (n, L) ((zkt kt x), (zkm true km x), (zkl true kl x time)) (pt, pm, pl) (nu, le, ow, fo, run, wc, lc, tr, cl, tm, (ms9 + 1)) (yl, yc, yt, co, pa, su, sc) mc ++ R) _ := hP
          have hD : va_D (zAb B) (zWT cI cJ h (n, L) ((zkt kt x), (zkm true km x), (zkl true kl x time)) (pt, pm, pl) (nu, le, ow, fo, run, wc, lc, tr, cl, tm, (ms9 + 1)) (yl, yc, yt, co, pa, su, sc) mc ++ R) := hD
          refine lv_iload hx hb dX4_tryLetter_43 (lv_at hl 0 rfl) ?_
          refine lv_iconst (v := (-1)) hx hb dX4_tryLetter_45 (by decide) ?_
          refine lv_icmp_eq (tgt := 64) hx hb dX4_tryLetter_46 (by decide) (fun c_21 => ?_) (fun c_21 => ?_)
          · skip
            refine lv_aload_n hx hb dX4_tryLetter_64 rfl (lv_at hl 3 rfl) ?_
            refine va_get (ci := 4) (v := .ref (h 11)) (C := RX4) (T := TX4) (N := 6) hx hb hts hinX4 hown hK hP 0 rfl rfl 3 (by decide) (hts (.fieldLink RX4 31 "TypingTutor" "current" "LTypingTutor$Lesson;") (List.mem_of_getElem? (i := 1) rfl)) (fun _ h9 => h9) rfl dX4_tryLetter_65 ?_
            refine lv_iload_n hx hb dX4_tryLetter_68 rfl (lv_at hl 2 rfl) ?_
            refine zcv (zrV (As := [.int 1]) (rest := []) ⟨hx, hb, hml, hown, hts⟩ (zV 11 hP hD hK hE hB hS rfl rfl) (c_X2_goOn_1  ) (cwV 1 hts gX4_tryLetter_X2_goOn rfl rfl rfl hdv_X2_goOn ⟨Nat.le_of_ble_eq_true rfl, Nat.le_of_ble_eq_true rfl⟩) rfl rfl hl.1 rfl (lv_room (Nat.le_of_ble_eq_true rfl)) dX4_tryLetter_69 ⟨Nat.le_of_ble_eq_true rfl, Nat.le_of_ble_eq_true rfl⟩) hS (fun H locs hP hD hS => ?_)
            have hP : va_P D vwCl (zWT cI cJ h (n, L) ((zkt kt x), (zkm true km x), (zkl true kl x time)) (pt, pm, pl) (nu, le, ow, fo, run, wc, lc, (tr + 1), (cl + 1), tm, 0) (yl, yc, yt, co, pa, su, sc) mc ++ R) _ := hP
            have hD : va_D (zAb B) (zWT cI cJ h (n, L) ((zkt kt x), (zkm true km x), (zkl true kl x time)) (pt, pm, pl) (nu, le, ow, fo, run, wc, lc, (tr + 1), (cl + 1), tm, 0) (yl, yc, yt, co, pa, su, sc) mc ++ R) := hD
            refine lv_aload_n hx hb dX4_tryLetter_72 rfl (lv_at hl 3 rfl) ?_
            refine va_get (ci := 4) (v := .ref (h 11)) (C := RX4) (T := TX4) (N := 6) hx hb hts hinX4 hown hK hP 0 rfl rfl 3 (by decide) (hts (.fieldLink RX4 31 "TypingTutor" "current" "LTypingTutor$Lesson;") (List.mem_of_getElem? (i := 1) rfl)) (fun _ h9 => h9) rfl dX4_tryLetter_73 ?_
            refine zci (zrV (As := []) (rest := []) ⟨hx, hb, hml, hown, hts⟩ (zV 11 hP hD hK hE hB hS rfl rfl) (c_X2_triedTotal  ) (cwV 0 hts gX4_tryLetter_X2_triedTotal rfl rfl rfl hdv_X2_triedTotal ⟨Nat.le_of_ble_eq_true rfl, Nat.le_of_ble_eq_true rfl⟩) rfl rfl hl.1 rfl (lv_room (Nat.le_of_ble_eq_true rfl)) dX4_tryLetter_76 ⟨Nat.le_of_ble_eq_true rfl, Nat.le_of_ble_eq_true rfl⟩) hS (fun H locs hP hD hS => ?_)
            have hP : va_P D vwCl (zWT cI cJ h (n, L) ((zkt kt x), (zkm true km x), (zkl true kl x time)) (pt, pm, pl) (nu, le, ow, fo, run, wc, lc, (tr + 1), (cl + 1), tm, 0) (yl, yc, yt, co, pa, su, sc) mc ++ R) _ := hP
            have hD : va_D (zAb B) (zWT cI cJ h (n, L) ((zkt kt x), (zkm true km x), (zkl true kl x time)) (pt, pm, pl) (nu, le, ow, fo, run, wc, lc, (tr + 1), (cl + 1), tm, 0) (yl, yc, yt, co, pa, su, sc) mc ++ R) := hD
            refine lv_aload_n hx hb dX4_tryLetter_79 rfl (lv_at hl 3 rfl) ?_
            refine va_get (ci := 4) (v := .ref (h 11)) (C := RX4) (T := TX4) (N := 6) hx hb hts hinX4 hown hK hP 0 rfl rfl 3 (by decide) (hts (.fieldLink RX4 31 "TypingTutor" "current" "LTypingTutor$Lesson;") (List.mem_of_getElem? (i := 1) rfl)) (fun _ h9 => h9) rfl dX4_tryLetter_80 ?_
            refine zci (zrV (As := []) (rest := [.int (nI (tr + 1))]) ⟨hx, hb, hml, hown, hts⟩ (zV 11 hP hD hK hE hB hS rfl rfl) (c_X2_letterTotal  ) (cwV 0 hts gX4_tryLetter_X2_letterTotal rfl rfl rfl hdv_X2_letterTotal ⟨Nat.le_of_ble_eq_true rfl, Nat.le_of_ble_eq_true rfl⟩) rfl rfl hl.1 rfl (lv_room (Nat.le_of_ble_eq_true rfl)) dX4_tryLetter_83 ⟨Nat.le_of_ble_eq_true rfl, Nat.le_of_ble_eq_true rfl⟩) hS (fun H locs hP hD hS => ?_)
            have hP : va_P D vwCl (zWT cI cJ h (n, L) ((zkt kt x), (zkm true km x), (zkl true kl x time)) (pt, pm, pl) (nu, le, ow, fo, run, wc, lc, (tr + 1), (cl + 1), tm, 0) (yl, yc, yt, co, pa, su, sc) mc ++ R) _ := hP
            have hD : va_D (zAb B) (zWT cI cJ h (n, L) ((zkt kt x), (zkm true km x), (zkl true kl x time)) (pt, pm, pl) (nu, le, ow, fo, run, wc, lc, (tr + 1), (cl + 1), tm, 0) (yl, yc, yt, co, pa, su, sc) mc ++ R) := hD
            refine lv_icmp_lt (tgt := 124) hx hb dX4_tryLetter_86 (by decide) (fun c_22 => ?_) (fun c_22 => ?_)
            · skip
              have c_22 : (tr + 1) < lc := (nI_ltI (a := (tr + 1)) (b := lc) (by omega) (by omega)).mp c_22
              exact W.vret hx hb hr (fun t ht hW => ⟨⟨(), rfl, trivial, by rw [ht]; exact hP, hD⟩, hS.F ht⟩) hS.2.2 dX4_tryLetter_124
            · skip
              have c_22 : ¬ (tr + 1) < lc := fun hh => c_22 ((nI_ltI (a := (tr + 1)) (b := lc) (by omega) (by omega)).mpr hh)
              refine lv_aload_n hx hb dX4_tryLetter_89 rfl (lv_at hl 3 rfl) ?_
              refine va_get (ci := 4) (v := .ref (h 11)) (C := RX4) (T := TX4) (N := 6) hx hb hts hinX4 hown hK hP 0 rfl rfl 3 (by decide) (hts (.fieldLink RX4 31 "TypingTutor" "current" "LTypingTutor$Lesson;") (List.mem_of_getElem? (i := 1) rfl)) (fun _ h9 => h9) rfl dX4_tryLetter_90 ?_
              refine zcv (zrV (As := []) (rest := []) ⟨hx, hb, hml, hown, hts⟩ (zV 11 hP hD hK hE hB hS rfl rfl) (c_X2_stop  ) (cwV 0 hts gX4_tryLetter_X2_stop rfl rfl rfl hdv_X2_stop ⟨Nat.le_of_ble_eq_true rfl, Nat.le_of_ble_eq_true rfl⟩) rfl rfl hl.1 rfl (lv_room (Nat.le_of_ble_eq_true rfl)) dX4_tryLetter_93 ⟨Nat.le_of_ble_eq_true rfl, Nat.le_of_ble_eq_true rfl⟩) hS (fun H locs hP hD hS => ?_)
              have hP : va_P D vwCl (zWT cI cJ h (n, L) ((zkt kt x), (zkm true km x), (zkl true kl x time)) (pt, pm, pl) (nu, le, ow, fo, false, wc, lc, (tr + 1), (cl + 1), tm, 0) (yl, yc, yt, co, pa, su, sc) mc ++ R) _ := hP
              have hD : va_D (zAb B) (zWT cI cJ h (n, L) ((zkt kt x), (zkm true km x), (zkl true kl x time)) (pt, pm, pl) (nu, le, ow, fo, false, wc, lc, (tr + 1), (cl + 1), tm, 0) (yl, yc, yt, co, pa, su, sc) mc ++ R) := hD
              refine lv_aload_n hx hb dX4_tryLetter_96 rfl (lv_at hl 3 rfl) ?_
              refine va_get (ci := 4) (v := .ref (h 16)) (C := RX4) (T := TX4) (N := 6) hx hb hts hinX4 hown hK hP 0 rfl rfl 4 (by decide) (hts (.fieldLink RX4 38 "TypingTutor" "past" "LTypingTutor$History;") (List.mem_of_getElem? (i := 4) rfl)) (fun _ h9 => h9) rfl dX4_tryLetter_97 ?_
              refine lv_aload_n hx hb dX4_tryLetter_100 rfl (lv_at hl 3 rfl) ?_
              refine va_get (ci := 4) (v := .ref (h 11)) (C := RX4) (T := TX4) (N := 6) hx hb hts hinX4 hown hK hP 0 rfl rfl 3 (by decide) (hts (.fieldLink RX4 31 "TypingTutor" "current" "LTypingTutor$Lesson;") (List.mem_of_getElem? (i := 1) rfl)) (fun _ h9 => h9) rfl dX4_tryLetter_101 ?_
              refine zci (zrV (As := []) (rest := [.ref (h 16)]) ⟨hx, hb, hml, hown, hts⟩ (zV 11 hP hD hK hE hB hS rfl rfl) (c_X2_letterTotal  ) (cwV 0 hts gX4_tryLetter_X2_letterTotal rfl rfl rfl hdv_X2_letterTotal ⟨Nat.le_of_ble_eq_true rfl, Nat.le_of_ble_eq_true rfl⟩) rfl rfl hl.1 rfl (lv_room (Nat.le_of_ble_eq_true rfl)) dX4_tryLetter_104 ⟨Nat.le_of_ble_eq_true rfl, Nat.le_of_ble_eq_true rfl⟩) hS (fun H locs hP hD hS => ?_)
              have hP : va_P D vwCl (zWT cI cJ h (n, L) ((zkt kt x), (zkm true km x), (zkl true kl x time)) (pt, pm, pl) (nu, le, ow, fo, false, wc, lc, (tr + 1), (cl + 1), tm, 0) (yl, yc, yt, co, pa, su, sc) mc ++ R) _ := hP
              have hD : va_D (zAb B) (zWT cI cJ h (n, L) ((zkt kt x), (zkm true km x), (zkl true kl x time)) (pt, pm, pl) (nu, le, ow, fo, false, wc, lc, (tr + 1), (cl + 1), tm, 0) (yl, yc, yt, co, pa, su, sc) mc ++ R) := hD
              refine lv_aload_n hx hb dX4_tryLetter_107 rfl (lv_at hl 3 rfl) ?_
              refine va_get (ci := 4) (v := .ref (h 11)) (C := RX4) (T := TX4) (N := 6) hx hb hts hinX4 hown hK hP 0 rfl rfl 3 (by decide) (hts (.fieldLink RX4 31 "TypingTutor" "current" "LTypingTutor$Lesson;") (List.mem_of_getElem? (i := 1) rfl)) (fun _ h9 => h9) rfl dX4_tryLetter_108 ?_
              refine zci (zrV (As := []) (rest := [.int (nI lc), .ref (h 16)]) ⟨hx, hb, hml, hown, hts⟩ (zV 11 hP hD hK hE hB hS rfl rfl) (c_X2_cleanTotal  ) (cwV 0 hts gX4_tryLetter_X2_cleanTotal rfl rfl rfl hdv_X2_cleanTotal ⟨Nat.le_of_ble_eq_true rfl, Nat.le_of_ble_eq_true rfl⟩) rfl rfl hl.1 rfl (lv_room (Nat.le_of_ble_eq_true rfl)) dX4_tryLetter_111 ⟨Nat.le_of_ble_eq_true rfl, Nat.le_of_ble_eq_true rfl⟩) hS (fun H locs hP hD hS => ?_)
              have hP : va_P D vwCl (zWT cI cJ h (n, L) ((zkt kt x), (zkm true km x), (zkl true kl x time)) (pt, pm, pl) (nu, le, ow, fo, false, wc, lc, (tr + 1), (cl + 1), tm, 0) (yl, yc, yt, co, pa, su, sc) mc ++ R) _ := hP
              have hD : va_D (zAb B) (zWT cI cJ h (n, L) ((zkt kt x), (zkm true km x), (zkl true kl x time)) (pt, pm, pl) (nu, le, ow, fo, false, wc, lc, (tr + 1), (cl + 1), tm, 0) (yl, yc, yt, co, pa, su, sc) mc ++ R) := hD
              refine lv_aload_n hx hb dX4_tryLetter_114 rfl (lv_at hl 3 rfl) ?_
              refine va_get (ci := 4) (v := .ref (h 11)) (C := RX4) (T := TX4) (N := 6) hx hb hts hinX4 hown hK hP 0 rfl rfl 3 (by decide) (hts (.fieldLink RX4 31 "TypingTutor" "current" "LTypingTutor$Lesson;") (List.mem_of_getElem? (i := 1) rfl)) (fun _ h9 => h9) rfl dX4_tryLetter_115 ?_
              refine zci (zrV (As := []) (rest := [.int (nI (cl + 1)), .int (nI lc), .ref (h 16)]) ⟨hx, hb, hml, hown, hts⟩ (zV 11 hP hD hK hE hB hS rfl rfl) (c_X2_timeSum  ) (cwV 0 hts gX4_tryLetter_X2_timeSum rfl rfl rfl hdv_X2_timeSum ⟨Nat.le_of_ble_eq_true rfl, Nat.le_of_ble_eq_true rfl⟩) rfl rfl hl.1 rfl (lv_room (Nat.le_of_ble_eq_true rfl)) dX4_tryLetter_118 ⟨Nat.le_of_ble_eq_true rfl, Nat.le_of_ble_eq_true rfl⟩) hS (fun H locs hP hD hS => ?_)
              have hP : va_P D vwCl (zWT cI cJ h (n, L) ((zkt kt x), (zkm true km x), (zkl true kl x time)) (pt, pm, pl) (nu, le, ow, fo, false, wc, lc, (tr + 1), (cl + 1), tm, 0) (yl, yc, yt, co, pa, su, sc) mc ++ R) _ := hP
              have hD : va_D (zAb B) (zWT cI cJ h (n, L) ((zkt kt x), (zkm true km x), (zkl true kl x time)) (pt, pm, pl) (nu, le, ow, fo, false, wc, lc, (tr + 1), (cl + 1), tm, 0) (yl, yc, yt, co, pa, su, sc) mc ++ R) := hD
              refine zcv (zrV (As := [.int (nI lc), .int (nI (cl + 1)), .int (nI tm)]) (rest := []) ⟨hx, hb, hml, hown, hts⟩ (zV 16 hP hD hK hE hB hS rfl rfl) (c_X0_keep (lt := lc) (ct := (cl + 1)) (ts := tm) (by omega) (by omega) (by omega)) (cwV 3 hts gX4_tryLetter_X0_keep rfl rfl rfl hdv_X0_keep ⟨Nat.le_of_ble_eq_true rfl, Nat.le_of_ble_eq_true rfl⟩) rfl rfl hl.1 rfl (lv_room (Nat.le_of_ble_eq_true rfl)) dX4_tryLetter_121 ⟨Nat.le_of_ble_eq_true rfl, Nat.le_of_ble_eq_true rfl⟩) hS (fun H locs hP hD hS => ?_)
              have hP : va_P D vwCl (zWT cI cJ h (n, L) ((zkt kt x), (zkm true km x), (zkl true kl x time)) (pt, pm, pl) (nu, le, ow, fo, false, wc, lc, (tr + 1), (cl + 1), tm, 0) ((upd yl co (nI lc)), (upd yc co (nI (cl + 1))), (upd yt co (nI tm)), (co + 1), (zpc pa lc (cl + 1)), (su + lc), (sc + (cl + 1))) mc ++ R) _ := hP
              have hD : va_D (zAb B) (zWT cI cJ h (n, L) ((zkt kt x), (zkm true km x), (zkl true kl x time)) (pt, pm, pl) (nu, le, ow, fo, false, wc, lc, (tr + 1), (cl + 1), tm, 0) ((upd yl co (nI lc)), (upd yc co (nI (cl + 1))), (upd yt co (nI tm)), (co + 1), (zpc pa lc (cl + 1)), (su + lc), (sc + (cl + 1))) mc ++ R) := hD
              exact W.vret hx hb hr (fun t ht hW => ⟨⟨(), rfl, trivial, by rw [ht]; exact hP, hD⟩, hS.F ht⟩) hS.2.2 dX4_tryLetter_124
          · skip
            exfalso; first | omega | (revert c_21; decide) | (exact absurd rfl c_21) | simp_all
    | some o9 =>
      cases fin with
      | true =>
        refine Met.ofW (cc := cX4_tryLetter) (maxL := 5) (ret := none) (by decide) rfl ?_
        intro p e s m args below meth c s₁ B0 hml hv
        obtain ⟨rfl, hP, hD, hK, hE, hB⟩ := hv
        have hx := B0.exec
        have hb := B0.bytes
        have hr := B0.returns
        have hts := atoms_spec (ws := wsX4_tryLetter) B0.pre
        have hown : s.vm.findClass RX4 = some m.cls := findClass_of_methodNamed B0.named
        have hlocks := B0.notSynchronized
        have hA : ∀ q : Nat, s.heap.size ≤ q → zAb B q := fun q hq => Nat.le_trans hB hq
        have hS : va_S (zAb B) s.heap s.heap [] := va_S.rf
        have hl := lv_entry ([.ref (h 0), .int time]) (n := 5) (Nat.le_of_ble_eq_true rfl)
        rw [lg_entry_eq]
        generalize (lg_sl ([.ref (h 0), .int time]) ++ List.replicate (5 - (lg_sl ([.ref (h 0), .int time])).length) Slot.unset).toArray = ls at hl ⊢
        have hl : lv_has ls 5 [(0, .ref (h 0)), (1, .int time)] := hl
        have hinX4 : ∀ w ∈ wsX40, w ∈ wsX4_tryLetter := fun _ h => List.mem_cons_of_mem _ (List.mem_append_left _ (List.mem_append_left _ (List.mem_append_left _ (List.mem_append_right _ h))))
        have hP : va_P D vwCl (zWT cI cJ h (n, L) (kt, km, kl) (pt, pm, pl) (nu, le, ow, fo, run, wc, lc, tr, cl, tm, (ms9 + 1)) (yl, yc, yt, co, pa, su, sc) mc ++ R) s.heap := hP
        have hD : va_D (zAb B) (zWT cI cJ h (n, L) (kt, km, kl) (pt, pm, pl) (nu, le, ow, fo, run, wc, lc, tr, cl, tm, (ms9 + 1)) (yl, yc, yt, co, pa, su, sc) mc ++ R) := hD
        have hy : y9 < 26 := hoy y9 rfl
        have hf : tr + 1 = lc := hf
        refine lv_aload_n hx hb dX4_tryLetter_0 rfl (lv_at hl 0 rfl) ?_
        refine va_get (ci := 4) (v := .ref (h 11)) (C := RX4) (T := TX4) (N := 6) hx hb hts hinX4 hown hK hP 0 rfl rfl 3 (by decide) (hts (.fieldLink RX4 31 "TypingTutor" "current" "LTypingTutor$Lesson;") (List.mem_of_getElem? (i := 1) rfl)) (fun _ h9 => h9) rfl dX4_tryLetter_1 ?_
        refine zci (zrV (As := []) (rest := []) ⟨hx, hb, hml, hown, hts⟩ (zV 11 hP hD hK hE hB hS rfl rfl) (c_X2_mistakesHere  ) (cwV 0 hts gX4_tryLetter_X2_mistakesHere rfl rfl rfl hdv_X2_mistakesHere ⟨Nat.le_of_ble_eq_true rfl, Nat.le_of_ble_eq_true rfl⟩) rfl rfl hl.1 rfl (lv_room (Nat.le_of_ble_eq_true rfl)) dX4_tryLetter_4 ⟨Nat.le_of_ble_eq_true rfl, Nat.le_of_ble_eq_true rfl⟩) hS (fun H locs hP hD hS => ?_)
        have hP : va_P D vwCl (zWT cI cJ h (n, L) (kt, km, kl) (pt, pm, pl) (nu, le, ow, fo, run, wc, lc, tr, cl, tm, (ms9 + 1)) (yl, yc, yt, co, pa, su, sc) mc ++ R) _ := hP
        have hD : va_D (zAb B) (zWT cI cJ h (n, L) (kt, km, kl) (pt, pm, pl) (nu, le, ow, fo, run, wc, lc, tr, cl, tm, (ms9 + 1)) (yl, yc, yt, co, pa, su, sc) mc ++ R) := hD
        refine lv_if_ne (tgt := 14) hx hb dX4_tryLetter_7 (by decide) (fun c_23 => ?_) (fun c_23 => ?_)
        · skip
          have c_23 : ¬ (ms9 + 1) = 0 := fun hh => c_23 ((nI_eq (a := (ms9 + 1)) (b := 0) (by omega) (by omega)).mpr hh)
          refine lv_iconst (v := 0) hx hb dX4_tryLetter_14 (by decide) ?_
          refine lv_istore_n (lv' := [(2, .int 0), (0, .ref (h 0)), (1, .int time)]) hx hb dX4_tryLetter_15 rfl hl (by decide) rfl (fun ls hl => ?_)
          refine lv_aload_n hx hb dX4_tryLetter_16 rfl (lv_at hl 1 rfl) ?_
          refine va_get (ci := 4) (v := .ref (h 11)) (C := RX4) (T := TX4) (N := 6) hx hb hts hinX4 hown hK hP 0 rfl rfl 3 (by decide) (hts (.fieldLink RX4 31 "TypingTutor" "current" "LTypingTutor$Lesson;") (List.mem_of_getElem? (i := 1) rfl)) (fun _ h9 => h9) rfl dX4_tryLetter_17 ?_
          refine zci (zrV (As := []) (rest := []) ⟨hx, hb, hml, hown, hts⟩ (zV 11 hP hD hK hE hB hS rfl rfl) (c_X2_letterHere  (by omega)) (cwV 0 hts gX4_tryLetter_X2_letterHere rfl rfl rfl hdv_X2_letterHere ⟨Nat.le_of_ble_eq_true rfl, Nat.le_of_ble_eq_true rfl⟩) rfl rfl hl.1 rfl (lv_room (Nat.le_of_ble_eq_true rfl)) dX4_tryLetter_20 ⟨Nat.le_of_ble_eq_true rfl, Nat.le_of_ble_eq_true rfl⟩) hS (fun H locs hP hD hS => ?_)
          have hP : va_P D vwCl (zWT cI cJ h (n, L) (kt, km, kl) (pt, pm, pl) (nu, le, ow, fo, run, wc, lc, tr, cl, tm, (ms9 + 1)) (yl, yc, yt, co, pa, su, sc) mc ++ R) _ := hP
          have hD : va_D (zAb B) (zWT cI cJ h (n, L) (kt, km, kl) (pt, pm, pl) (nu, le, ow, fo, run, wc, lc, tr, cl, tm, (ms9 + 1)) (yl, yc, yt, co, pa, su, sc) mc ++ R) := hD
          rw [show (le tr) = (nI x) from hx9]
          refine lv_istore_n (lv' := [(3, .int (nI x)), (2, .int 0), (0, .ref (h 0)), (1, .int time)]) hx hb dX4_tryLetter_23 rfl hl (by decide) rfl (fun ls hl => ?_)
          refine lv_aload_n hx hb dX4_tryLetter_24 rfl (lv_at hl 2 rfl) ?_
          refine va_get (ci := 4) (v := .ref (h 11)) (C := RX4) (T := TX4) (N := 6) hx hb hts hinX4 hown hK hP 0 rfl rfl 3 (by decide) (hts (.fieldLink RX4 31 "TypingTutor" "current" "LTypingTutor$Lesson;") (List.mem_of_getElem? (i := 1) rfl)) (fun _ h9 => h9) rfl dX4_tryLetter_25 ?_
          refine zci (zrV (As := []) (rest := []) ⟨hx, hb, hml, hown, hts⟩ (zV 11 hP hD hK hE hB hS rfl rfl) (c_X2_letterBefore  (by omega) (by omega)) (cwV 0 hts gX4_tryLetter_X2_letterBefore rfl rfl rfl hdv_X2_letterBefore ⟨Nat.le_of_ble_eq_true rfl, Nat.le_of_ble_eq_true rfl⟩) rfl rfl hl.1 rfl (lv_room (Nat.le_of_ble_eq_true rfl)) dX4_tryLetter_28 ⟨Nat.le_of_ble_eq_true rfl, Nat.le_of_ble_eq_true rfl⟩) hS (fun H locs hP hD hS => ?_)
          have hP : va_P D vwCl (zWT cI cJ h (n, L) (kt, km, kl) (pt, pm, pl) (nu, le, ow, fo, run, wc, lc, tr, cl, tm, (ms9 + 1)) (yl, yc, yt, co, pa, su, sc) mc ++ R) _ := hP
          have hD : va_D (zAb B) (zWT cI cJ h (n, L) (kt, km, kl) (pt, pm, pl) (nu, le, ow, fo, run, wc, lc, tr, cl, tm, (ms9 + 1)) (yl, yc, yt, co, pa, su, sc) mc ++ R) := hD
          rw [show (zis le ow lc tr (nI tr - 1)) = (nI y9) from ho]
          refine lv_istore (lv' := [(4, .int (nI y9)), (3, .int (nI x)), (2, .int 0), (0, .ref (h 0)), (1, .int time)]) hx hb dX4_tryLetter_31 hl (by decide) rfl (fun ls hl => ?_)
          refine lv_aload_n hx hb dX4_tryLetter_33 rfl (lv_at hl 3 rfl) ?_
          refine va_get (ci := 4) (v := .ref (h 3)) (C := RX4) (T := TX4) (N := 6) hx hb hts hinX4 hown hK hP 0 rfl rfl 1 (by decide) (hts (.fieldLink RX4 21 "TypingTutor" "keys" "LTypingTutor$Knowledge;") (List.mem_of_getElem? (i := 2) rfl)) (fun _ h9 => h9) rfl dX4_tryLetter_34 ?_
          refine lv_iload_n hx hb dX4_tryLetter_37 rfl (lv_at hl 1 rfl) ?_
          refine lv_iload_n hx hb dX4_tryLetter_38 rfl (lv_at hl 2 rfl) ?_
          refine lv_iload_n hx hb dX4_tryLetter_39 rfl (lv_at hl 4 rfl) ?_
          refine zcv (zrV (As := [.int (nI x), .int 0, .int time]) (rest := []) ⟨hx, hb, hml, hown, hts⟩ (zV 3 hP hD hK hE hB hS rfl rfl) (c_X1_learn_k (k := x) (b := false) (by omega)) (cwV 3 hts gX4_tryLetter_X1_learn rfl rfl rfl hdv_X1_learn ⟨Nat.le_of_ble_eq_true rfl, Nat.le_of_ble_eq_true rfl⟩) rfl rfl hl.1 rfl (lv_room (Nat.le_of_ble_eq_true rfl)) dX4_tryLetter_40 ⟨Nat.le_of_ble_eq_true rfl, Nat.le_of_ble_eq_true rfl⟩) hS (fun H locs hP hD hS => ?_)
          have hP : va_P D vwCl (zWT cI cJ h (n, L) ((zkt kt x), (zkm false km x), (zkl false kl x time)) (pt, pm, pl) (nu, le, ow, fo, run, wc, lc, tr, cl, tm, (ms9 + 1)) (yl, yc, yt, co, pa, su, sc) mc ++ R) _ := hP
          have hD : va_D (zAb B) (zWT cI cJ h (n, L) ((zkt kt x), (zkm false km x), (zkl false kl x time)) (pt, pm, pl) (nu, le, ow, fo, run, wc, lc, tr, cl, tm, (ms9 + 1)) (yl, yc, yt, co, pa, su, sc) mc ++ R) := hD
          refine lv_iload hx hb dX4_tryLetter_43 (lv_at hl 0 rfl) ?_
          refine lv_iconst (v := (-1)) hx hb dX4_tryLetter_45 (by decide) ?_
          refine lv_icmp_eq (tgt := 64) hx hb dX4_tryLetter_46 (by decide) (fun c_24 => ?_) (fun c_24 => ?_)
          · skip
            exact absurd c_24 (nI_m1 (by omega))
          · skip
            refine lv_aload_n hx hb dX4_tryLetter_49 rfl (lv_at hl 3 rfl) ?_
            refine va_get (ci := 4) (v := .ref (h 7)) (C := RX4) (T := TX4) (N := 6) hx hb hts hinX4 hown hK hP 0 rfl rfl 2 (by decide) (hts (.fieldLink RX4 25 "TypingTutor" "pairs" "LTypingTutor$Knowledge;") (List.mem_of_getElem? (i := 3) rfl)) (fun _ h9 => h9) rfl dX4_tryLetter_50 ?_
            refine lv_iload hx hb dX4_tryLetter_53 (lv_at hl 0 rfl) ?_
            refine lv_iload_n hx hb dX4_tryLetter_55 rfl (lv_at hl 1 rfl) ?_
            refine zci (zrS (As := [.int (nI y9), .int (nI x)]) (rest := [.ref (h 7)]) ⟨hx, hb, hml, hown, hts⟩ (zS hP hD hK hE hB hS) (c_X4_pairOf  ) (va_cwS 2 hts gX4_tryLetter_X4_pairOf rfl rfl rfl hds_X4_pairOf ⟨Nat.le_of_ble_eq_true rfl, Nat.le_of_ble_eq_true rfl⟩) rfl rfl hl.1 rfl (lv_room (Nat.le_of_ble_eq_true rfl)) dX4_tryLetter_56 ⟨Nat.le_of_ble_eq_true rfl, Nat.le_of_ble_eq_true rfl⟩) hS (fun H locs hP hD hS => ?_)
            have hP : va_P D vwCl (zWT cI cJ h (n, L) ((zkt kt x), (zkm false km x), (zkl false kl x time)) (pt, pm, pl) (nu, le, ow, fo, run, wc, lc, tr, cl, tm, (ms9 + 1)) (yl, yc, yt, co, pa, su, sc) mc ++ R) _ := hP
            have hD : va_D (zAb B) (zWT cI cJ h (n, L) ((zkt kt x), (zkm false km x), (zkl false kl x time)) (pt, pm, pl) (nu, le, ow, fo, run, wc, lc, tr, cl, tm, (ms9 + 1)) (yl, yc, yt, co, pa, su, sc) mc ++ R) := hD
            rw [show (26 * (nI y9) + (nI x)) = (nI (26 * y9 + x)) from (by rw [show (26 : Int32) = nI 26 from rfl, pk_mul, nI_add])]
            refine lv_iload_n hx hb dX4_tryLetter_59 rfl (lv_at hl 2 rfl) ?_
            refine lv_iload_n hx hb dX4_tryLetter_60 rfl (lv_at hl 4 rfl) ?_
            refine zcv (zrV (As := [.int (nI (26 * y9 + x)), .int 0, .int time]) (rest := []) ⟨hx, hb, hml, hown, hts⟩ (zV 7 hP hD hK hE hB hS rfl rfl) (c_X1_learn_p (k := (26 * y9 + x)) (b := false) (by omega)) (cwV 3 hts gX4_tryLetter_X1_learn rfl rfl rfl hdv_X1_learn ⟨Nat.le_of_ble_eq_true rfl, Nat.le_of_ble_eq_true rfl⟩) rfl rfl hl.1 rfl (lv_room (Nat.le_of_ble_eq_true rfl)) dX4_tryLetter_61 ⟨Nat.le_of_ble_eq_true rfl, Nat.le_of_ble_eq_true rfl⟩) hS (fun H locs hP hD hS => ?_)
            have hP : va_P D vwCl (zWT cI cJ h (n, L) ((zkt kt x), (zkm false km x), (zkl false kl x time)) ((zkt pt (26 * y9 + x)), (zkm false pm (26 * y9 + x)), (zkl false pl (26 * y9 + x) time)) (nu, le, ow, fo, run, wc, lc, tr, cl, tm, (ms9 + 1)) (yl, yc, yt, co, pa, su, sc) mc ++ R) _ := hP
            have hD : va_D (zAb B) (zWT cI cJ h (n, L) ((zkt kt x), (zkm false km x), (zkl false kl x time)) ((zkt pt (26 * y9 + x)), (zkm false pm (26 * y9 + x)), (zkl false pl (26 * y9 + x) time)) (nu, le, ow, fo, run, wc, lc, tr, cl, tm, (ms9 + 1)) (yl, yc, yt, co, pa, su, sc) mc ++ R) := hD
            refine lv_aload_n hx hb dX4_tryLetter_64 rfl (lv_at hl 3 rfl) ?_
            refine va_get (ci := 4) (v := .ref (h 11)) (C := RX4) (T := TX4) (N := 6) hx hb hts hinX4 hown hK hP 0 rfl rfl 3 (by decide) (hts (.fieldLink RX4 31 "TypingTutor" "current" "LTypingTutor$Lesson;") (List.mem_of_getElem? (i := 1) rfl)) (fun _ h9 => h9) rfl dX4_tryLetter_65 ?_
            refine lv_iload_n hx hb dX4_tryLetter_68 rfl (lv_at hl 2 rfl) ?_
            refine zcv (zrV (As := [.int 0]) (rest := []) ⟨hx, hb, hml, hown, hts⟩ (zV 11 hP hD hK hE hB hS rfl rfl) (c_X2_goOn_0  ) (cwV 1 hts gX4_tryLetter_X2_goOn rfl rfl rfl hdv_X2_goOn ⟨Nat.le_of_ble_eq_true rfl, Nat.le_of_ble_eq_true rfl⟩) rfl rfl hl.1 rfl (lv_room (Nat.le_of_ble_eq_true rfl)) dX4_tryLetter_69 ⟨Nat.le_of_ble_eq_true rfl, Nat.le_of_ble_eq_true rfl⟩) hS (fun H locs hP hD hS => ?_)
            have hP : va_P D vwCl (zWT cI cJ h (n, L) ((zkt kt x), (zkm false km x), (zkl false kl x time)) ((zkt pt (26 * y9 + x)), (zkm false pm (26 * y9 + x)), (zkl false pl (26 * y9 + x) time)) (nu, le, ow, fo, run, wc, lc, (tr + 1), cl, tm, 0) (yl, yc, yt, co, pa, su, sc) mc ++ R) _ := hP
            have hD : va_D (zAb B) (zWT cI cJ h (n, L) ((zkt kt x), (zkm false km x), (zkl false kl x time)) ((zkt pt (26 * y9 + x)), (zkm false pm (26 * y9 + x)), (zkl false pl (26 * y9 + x) time)) (nu, le, ow, fo, run, wc, lc, (tr + 1), cl, tm, 0) (yl, yc, yt, co, pa, su, sc) mc ++ R) := hD
            refine lv_aload_n hx hb dX4_tryLetter_72 rfl (lv_at hl 3 rfl) ?_
            refine va_get (ci := 4) (v := .ref (h 11)) (C := RX4) (T := TX4) (N := 6) hx hb hts hinX4 hown hK hP 0 rfl rfl 3 (by decide) (hts (.fieldLink RX4 31 "TypingTutor" "current" "LTypingTutor$Lesson;") (List.mem_of_getElem? (i := 1) rfl)) (fun _ h9 => h9) rfl dX4_tryLetter_73 ?_
            refine zci (zrV (As := []) (rest := []) ⟨hx, hb, hml, hown, hts⟩ (zV 11 hP hD hK hE hB hS rfl rfl) (c_X2_triedTotal  ) (cwV 0 hts gX4_tryLetter_X2_triedTotal rfl rfl rfl hdv_X2_triedTotal ⟨Nat.le_of_ble_eq_true rfl, Nat.le_of_ble_eq_true rfl⟩) rfl rfl hl.1 rfl (lv_room (Nat.le_of_ble_eq_true rfl)) dX4_tryLetter_76 ⟨Nat.le_of_ble_eq_true rfl, Nat.le_of_ble_eq_true rfl⟩) hS (fun H locs hP hD hS => ?_)
            have hP : va_P D vwCl (zWT cI cJ h (n, L) ((zkt kt x), (zkm false km x), (zkl false kl x time)) ((zkt pt (26 * y9 + x)), (zkm false pm (26 * y9 + x)), (zkl false pl (26 * y9 + x) time)) (nu, le, ow, fo, run, wc, lc, (tr + 1), cl, tm, 0) (yl, yc, yt, co, pa, su, sc) mc ++ R) _ := hP
            have hD : va_D (zAb B) (zWT cI cJ h (n, L) ((zkt kt x), (zkm false km x), (zkl false kl x time)) ((zkt pt (26 * y9 + x)), (zkm false pm (26 * y9 + x)), (zkl false pl (26 * y9 + x) time)) (nu, le, ow, fo, run, wc, lc, (tr + 1), cl, tm, 0) (yl, yc, yt, co, pa, su, sc) mc ++ R) := hD
            refine lv_aload_n hx hb dX4_tryLetter_79 rfl (lv_at hl 3 rfl) ?_
            refine va_get (ci := 4) (v := .ref (h 11)) (C := RX4) (T := TX4) (N := 6) hx hb hts hinX4 hown hK hP 0 rfl rfl 3 (by decide) (hts (.fieldLink RX4 31 "TypingTutor" "current" "LTypingTutor$Lesson;") (List.mem_of_getElem? (i := 1) rfl)) (fun _ h9 => h9) rfl dX4_tryLetter_80 ?_
            refine zci (zrV (As := []) (rest := [.int (nI (tr + 1))]) ⟨hx, hb, hml, hown, hts⟩ (zV 11 hP hD hK hE hB hS rfl rfl) (c_X2_letterTotal  ) (cwV 0 hts gX4_tryLetter_X2_letterTotal rfl rfl rfl hdv_X2_letterTotal ⟨Nat.le_of_ble_eq_true rfl, Nat.le_of_ble_eq_true rfl⟩) rfl rfl hl.1 rfl (lv_room (Nat.le_of_ble_eq_true rfl)) dX4_tryLetter_83 ⟨Nat.le_of_ble_eq_true rfl, Nat.le_of_ble_eq_true rfl⟩) hS (fun H locs hP hD hS => ?_)
            have hP : va_P D vwCl (zWT cI cJ h (n, L) ((zkt kt x), (zkm false km x), (zkl false kl x time)) ((zkt pt (26 * y9 + x)), (zkm false pm (26 * y9 + x)), (zkl false pl (26 * y9 + x) time)) (nu, le, ow, fo, run, wc, lc, (tr + 1), cl, tm, 0) (yl, yc, yt, co, pa, su, sc) mc ++ R) _ := hP
            have hD : va_D (zAb B) (zWT cI cJ h (n, L) ((zkt kt x), (zkm false km x), (zkl false kl x time)) ((zkt pt (26 * y9 + x)), (zkm false pm (26 * y9 + x)), (zkl false pl (26 * y9 + x) time)) (nu, le, ow, fo, run, wc, lc, (tr + 1), cl, tm, 0) (yl, yc, yt, co, pa, su, sc) mc ++ R) := hD
            refine lv_icmp_lt (tgt := 124) hx hb dX4_tryLetter_86 (by decide) (fun c_25 => ?_) (fun c_25 => ?_)
            · skip
              have c_25 : (tr + 1) < lc := (nI_ltI (a := (tr + 1)) (b := lc) (by omega) (by omega)).mp c_25
              exact W.vret hx hb hr (fun t ht hW => ⟨⟨(), rfl, trivial, by rw [ht]; exact hP, hD⟩, hS.F ht⟩) hS.2.2 dX4_tryLetter_124
            · skip
              have c_25 : ¬ (tr + 1) < lc := fun hh => c_25 ((nI_ltI (a := (tr + 1)) (b := lc) (by omega) (by omega)).mpr hh)
              refine lv_aload_n hx hb dX4_tryLetter_89 rfl (lv_at hl 3 rfl) ?_
              refine va_get (ci := 4) (v := .ref (h 11)) (C := RX4) (T := TX4) (N := 6) hx hb hts hinX4 hown hK hP 0 rfl rfl 3 (by decide) (hts (.fieldLink RX4 31 "TypingTutor" "current" "LTypingTutor$Lesson;") (List.mem_of_getElem? (i := 1) rfl)) (fun _ h9 => h9) rfl dX4_tryLetter_90 ?_
              refine zcv (zrV (As := []) (rest := []) ⟨hx, hb, hml, hown, hts⟩ (zV 11 hP hD hK hE hB hS rfl rfl) (c_X2_stop  ) (cwV 0 hts gX4_tryLetter_X2_stop rfl rfl rfl hdv_X2_stop ⟨Nat.le_of_ble_eq_true rfl, Nat.le_of_ble_eq_true rfl⟩) rfl rfl hl.1 rfl (lv_room (Nat.le_of_ble_eq_true rfl)) dX4_tryLetter_93 ⟨Nat.le_of_ble_eq_true rfl, Nat.le_of_ble_eq_true rfl⟩) hS (fun H locs hP hD hS => ?_)
              have hP : va_P D vwCl (zWT cI cJ h (n, L) ((zkt kt x), (zkm false km x), (zkl false kl x time)) ((zkt pt (26 * y9 + x)), (zkm false pm (26 * y9 + x)), (zkl false pl (26 * y9 + x) time)) (nu, le, ow, fo, false, wc, lc, (tr + 1), cl, tm, 0) (yl, yc, yt, co, pa, su, sc) mc ++ R) _ := hP
              have hD : va_D (zAb B) (zWT cI cJ h (n, L) ((zkt kt x), (zkm false km x), (zkl false kl x time)) ((zkt pt (26 * y9 + x)), (zkm false pm (26 * y9 + x)), (zkl false pl (26 * y9 + x) time)) (nu, le, ow, fo, false, wc, lc, (tr + 1), cl, tm, 0) (yl, yc, yt, co, pa, su, sc) mc ++ R) := hD
              refine lv_aload_n hx hb dX4_tryLetter_96 rfl (lv_at hl 3 rfl) ?_
              refine va_get (ci := 4) (v := .ref (h 16)) (C := RX4) (T := TX4) (N := 6) hx hb hts hinX4 hown hK hP 0 rfl rfl 4 (by decide) (hts (.fieldLink RX4 38 "TypingTutor" "past" "LTypingTutor$History;") (List.mem_of_getElem? (i := 4) rfl)) (fun _ h9 => h9) rfl dX4_tryLetter_97 ?_
              refine lv_aload_n hx hb dX4_tryLetter_100 rfl (lv_at hl 3 rfl) ?_
              refine va_get (ci := 4) (v := .ref (h 11)) (C := RX4) (T := TX4) (N := 6) hx hb hts hinX4 hown hK hP 0 rfl rfl 3 (by decide) (hts (.fieldLink RX4 31 "TypingTutor" "current" "LTypingTutor$Lesson;") (List.mem_of_getElem? (i := 1) rfl)) (fun _ h9 => h9) rfl dX4_tryLetter_101 ?_
              refine zci (zrV (As := []) (rest := [.ref (h 16)]) ⟨hx, hb, hml, hown, hts⟩ (zV 11 hP hD hK hE hB hS rfl rfl) (c_X2_letterTotal  ) (cwV 0 hts gX4_tryLetter_X2_letterTotal rfl rfl rfl hdv_X2_letterTotal ⟨Nat.le_of_ble_eq_true rfl, Nat.le_of_ble_eq_true rfl⟩) rfl rfl hl.1 rfl (lv_room (Nat.le_of_ble_eq_true rfl)) dX4_tryLetter_104 ⟨Nat.le_of_ble_eq_true rfl, Nat.le_of_ble_eq_true rfl⟩) hS (fun H locs hP hD hS => ?_)
              have hP : va_P D vwCl (zWT cI cJ h (n, L) ((zkt kt x), (zkm false km x), (zkl false kl x time)) ((zkt pt (26 * y9 + x)), (zkm false pm (26 * y9 + x)), (zkl false pl (26 * y9 + x) time)) (nu, le, ow, fo, false, wc, lc, (tr + 1), cl, tm, 0) (yl, yc, yt, co, pa, su, sc) mc ++ R) _ := hP
              have hD : va_D (zAb B) (zWT cI cJ h (n, L) ((zkt kt x), (zkm false km x), (zkl false kl x time)) ((zkt pt (26 * y9 + x)), (zkm false pm (26 * y9 + x)), (zkl false pl (26 * y9 + x) time)) (nu, le, ow, fo, false, wc, lc, (tr + 1), cl, tm, 0) (yl, yc, yt, co, pa, su, sc) mc ++ R) := hD
              refine lv_aload_n hx hb dX4_tryLetter_107 rfl (lv_at hl 3 rfl) ?_
              refine va_get (ci := 4) (v := .ref (h 11)) (C := RX4) (T := TX4) (N := 6) hx hb hts hinX4 hown hK hP 0 rfl rfl 3 (by decide) (hts (.fieldLink RX4 31 "TypingTutor" "current" "LTypingTutor$Lesson;") (List.mem_of_getElem? (i := 1) rfl)) (fun _ h9 => h9) rfl dX4_tryLetter_108 ?_
              refine zci (zrV (As := []) (rest := [.int (nI lc), .ref (h 16)]) ⟨hx, hb, hml, hown, hts⟩ (zV 11 hP hD hK hE hB hS rfl rfl) (c_X2_cleanTotal  ) (cwV 0 hts gX4_tryLetter_X2_cleanTotal rfl rfl rfl hdv_X2_cleanTotal ⟨Nat.le_of_ble_eq_true rfl, Nat.le_of_ble_eq_true rfl⟩) rfl rfl hl.1 rfl (lv_room (Nat.le_of_ble_eq_true rfl)) dX4_tryLetter_111 ⟨Nat.le_of_ble_eq_true rfl, Nat.le_of_ble_eq_true rfl⟩) hS (fun H locs hP hD hS => ?_)
              have hP : va_P D vwCl (zWT cI cJ h (n, L) ((zkt kt x), (zkm false km x), (zkl false kl x time)) ((zkt pt (26 * y9 + x)), (zkm false pm (26 * y9 + x)), (zkl false pl (26 * y9 + x) time)) (nu, le, ow, fo, false, wc, lc, (tr + 1), cl, tm, 0) (yl, yc, yt, co, pa, su, sc) mc ++ R) _ := hP
              have hD : va_D (zAb B) (zWT cI cJ h (n, L) ((zkt kt x), (zkm false km x), (zkl false kl x time)) ((zkt pt (26 * y9 + x)), (zkm false pm (26 * y9 + x)), (zkl false pl (26 * y9 + x) time)) (nu, le, ow, fo, false, wc, lc, (tr + 1), cl, tm, 0) (yl, yc, yt, co, pa, su, sc) mc ++ R) := hD
              refine lv_aload_n hx hb dX4_tryLetter_114 rfl (lv_at hl 3 rfl) ?_
              refine va_get (ci := 4) (v := .ref (h 11)) (C := RX4) (T := TX4) (N := 6) hx hb hts hinX4 hown hK hP 0 rfl rfl 3 (by decide) (hts (.fieldLink RX4 31 "TypingTutor" "current" "LTypingTutor$Lesson;") (List.mem_of_getElem? (i := 1) rfl)) (fun _ h9 => h9) rfl dX4_tryLetter_115 ?_
              refine zci (zrV (As := []) (rest := [.int (nI cl), .int (nI lc), .ref (h 16)]) ⟨hx, hb, hml, hown, hts⟩ (zV 11 hP hD hK hE hB hS rfl rfl) (c_X2_timeSum  ) (cwV 0 hts gX4_tryLetter_X2_timeSum rfl rfl rfl hdv_X2_timeSum ⟨Nat.le_of_ble_eq_true rfl, Nat.le_of_ble_eq_true rfl⟩) rfl rfl hl.1 rfl (lv_room (Nat.le_of_ble_eq_true rfl)) dX4_tryLetter_118 ⟨Nat.le_of_ble_eq_true rfl, Nat.le_of_ble_eq_true rfl⟩) hS (fun H locs hP hD hS => ?_)
              have hP : va_P D vwCl (zWT cI cJ h (n, L) ((zkt kt x), (zkm false km x), (zkl false kl x time)) ((zkt pt (26 * y9 + x)), (zkm false pm (26 * y9 + x)), (zkl false pl (26 * y9 + x) time)) (nu, le, ow, fo, false, wc, lc, (tr + 1), cl, tm, 0) (yl, yc, yt, co, pa, su, sc) mc ++ R) _ := hP
              have hD : va_D (zAb B) (zWT cI cJ h (n, L) ((zkt kt x), (zkm false km x), (zkl false kl x time)) ((zkt pt (26 * y9 + x)), (zkm false pm (26 * y9 + x)), (zkl false pl (26 * y9 + x) time)) (nu, le, ow, fo, false, wc, lc, (tr + 1), cl, tm, 0) (yl, yc, yt, co, pa, su, sc) mc ++ R) := hD
              refine zcv (zrV (As := [.int (nI lc), .int (nI cl), .int (nI tm)]) (rest := []) ⟨hx, hb, hml, hown, hts⟩ (zV 16 hP hD hK hE hB hS rfl rfl) (c_X0_keep (lt := lc) (ct := cl) (ts := tm) (by omega) (by omega) (by omega)) (cwV 3 hts gX4_tryLetter_X0_keep rfl rfl rfl hdv_X0_keep ⟨Nat.le_of_ble_eq_true rfl, Nat.le_of_ble_eq_true rfl⟩) rfl rfl hl.1 rfl (lv_room (Nat.le_of_ble_eq_true rfl)) dX4_tryLetter_121 ⟨Nat.le_of_ble_eq_true rfl, Nat.le_of_ble_eq_true rfl⟩) hS (fun H locs hP hD hS => ?_)
              have hP : va_P D vwCl (zWT cI cJ h (n, L) ((zkt kt x), (zkm false km x), (zkl false kl x time)) ((zkt pt (26 * y9 + x)), (zkm false pm (26 * y9 + x)), (zkl false pl (26 * y9 + x) time)) (nu, le, ow, fo, false, wc, lc, (tr + 1), cl, tm, 0) ((upd yl co (nI lc)), (upd yc co (nI cl)), (upd yt co (nI tm)), (co + 1), (zpc pa lc cl), (su + lc), (sc + cl)) mc ++ R) _ := hP
              have hD : va_D (zAb B) (zWT cI cJ h (n, L) ((zkt kt x), (zkm false km x), (zkl false kl x time)) ((zkt pt (26 * y9 + x)), (zkm false pm (26 * y9 + x)), (zkl false pl (26 * y9 + x) time)) (nu, le, ow, fo, false, wc, lc, (tr + 1), cl, tm, 0) ((upd yl co (nI lc)), (upd yc co (nI cl)), (upd yt co (nI tm)), (co + 1), (zpc pa lc cl), (su + lc), (sc + cl)) mc ++ R) := hD
              exact W.vret hx hb hr (fun t ht hW => ⟨⟨(), rfl, trivial, by rw [ht]; exact hP, hD⟩, hS.F ht⟩) hS.2.2 dX4_tryLetter_124
        · skip
          have c_23 : (ms9 + 1) = 0 := (nI_eq (a := (ms9 + 1)) (b := 0) (by omega) (by omega)).mp c_23
          refine lv_iconst (v := 1) hx hb dX4_tryLetter_10 (by decide) ?_
          refine lv_goto (tgt := 15) hx hb dX4_tryLetter_11 (by decide) ?_
          refine lv_istore_n (lv' := [(2, .int 1), (0, .ref (h 0)), (1, .int time)]) hx hb dX4_tryLetter_15 rfl hl (by decide) rfl (fun ls hl => ?_)
          refine lv_aload_n hx hb dX4_tryLetter_16 rfl (lv_at hl 1 rfl) ?_
          refine va_get (ci := 4) (v := .ref (h 11)) (C := RX4) (T := TX4) (N := 6) hx hb hts hinX4 hown hK hP 0 rfl rfl 3 (by decide) (hts (.fieldLink RX4 31 "TypingTutor" "current" "LTypingTutor$Lesson;") (List.mem_of_getElem? (i := 1) rfl)) (fun _ h9 => h9) rfl dX4_tryLetter_17 ?_
          refine zci (zrV (As := []) (rest := []) ⟨hx, hb, hml, hown, hts⟩ (zV 11 hP hD hK hE hB hS rfl rfl) (c_X2_letterHere  (by omega)) (cwV 0 hts gX4_tryLetter_X2_letterHere rfl rfl rfl hdv_X2_letterHere ⟨Nat.le_of_ble_eq_true rfl, Nat.le_of_ble_eq_true rfl⟩) rfl rfl hl.1 rfl (lv_room (Nat.le_of_ble_eq_true rfl)) dX4_tryLetter_20 ⟨Nat.le_of_ble_eq_true rfl, Nat.le_of_ble_eq_true rfl⟩) hS (fun H locs hP hD hS => ?_)
          have hP : va_P D vwCl (zWT cI cJ h (n, L) (kt, km, kl) (pt, pm, pl) (nu, le, ow, fo, run, wc, lc, tr, cl, tm, (ms9 + 1)) (yl, yc, yt, co, pa, su, sc) mc ++ R) _ := hP
          have hD : va_D (zAb B) (zWT cI cJ h (n, L) (kt, km, kl) (pt, pm, pl) (nu, le, ow, fo, run, wc, lc, tr, cl, tm, (ms9 + 1)) (yl, yc, yt, co, pa, su, sc) mc ++ R) := hD
          rw [show (le tr) = (nI x) from hx9]
          refine lv_istore_n (lv' := [(3, .int (nI x)), (2, .int 1), (0, .ref (h 0)), (1, .int time)]) hx hb dX4_tryLetter_23 rfl hl (by decide) rfl (fun ls hl => ?_)
          refine lv_aload_n hx hb dX4_tryLetter_24 rfl (lv_at hl 2 rfl) ?_
          refine va_get (ci := 4) (v := .ref (h 11)) (C := RX4) (T := TX4) (N := 6) hx hb hts hinX4 hown hK hP 0 rfl rfl 3 (by decide) (hts (.fieldLink RX4 31 "TypingTutor" "current" "LTypingTutor$Lesson;") (List.mem_of_getElem? (i := 1) rfl)) (fun _ h9 => h9) rfl dX4_tryLetter_25 ?_
          refine zci (zrV (As := []) (rest := []) ⟨hx, hb, hml, hown, hts⟩ (zV 11 hP hD hK hE hB hS rfl rfl) (c_X2_letterBefore  (by omega) (by omega)) (cwV 0 hts gX4_tryLetter_X2_letterBefore rfl rfl rfl hdv_X2_letterBefore ⟨Nat.le_of_ble_eq_true rfl, Nat.le_of_ble_eq_true rfl⟩) rfl rfl hl.1 rfl (lv_room (Nat.le_of_ble_eq_true rfl)) dX4_tryLetter_28 ⟨Nat.le_of_ble_eq_true rfl, Nat.le_of_ble_eq_true rfl⟩) hS (fun H locs hP hD hS => ?_)
          have hP : va_P D vwCl (zWT cI cJ h (n, L) (kt, km, kl) (pt, pm, pl) (nu, le, ow, fo, run, wc, lc, tr, cl, tm, (ms9 + 1)) (yl, yc, yt, co, pa, su, sc) mc ++ R) _ := hP
          have hD : va_D (zAb B) (zWT cI cJ h (n, L) (kt, km, kl) (pt, pm, pl) (nu, le, ow, fo, run, wc, lc, tr, cl, tm, (ms9 + 1)) (yl, yc, yt, co, pa, su, sc) mc ++ R) := hD
          rw [show (zis le ow lc tr (nI tr - 1)) = (nI y9) from ho]
          refine lv_istore (lv' := [(4, .int (nI y9)), (3, .int (nI x)), (2, .int 1), (0, .ref (h 0)), (1, .int time)]) hx hb dX4_tryLetter_31 hl (by decide) rfl (fun ls hl => ?_)
          refine lv_aload_n hx hb dX4_tryLetter_33 rfl (lv_at hl 3 rfl) ?_
          refine va_get (ci := 4) (v := .ref (h 3)) (C := RX4) (T := TX4) (N := 6) hx hb hts hinX4 hown hK hP 0 rfl rfl 1 (by decide) (hts (.fieldLink RX4 21 "TypingTutor" "keys" "LTypingTutor$Knowledge;") (List.mem_of_getElem? (i := 2) rfl)) (fun _ h9 => h9) rfl dX4_tryLetter_34 ?_
          refine lv_iload_n hx hb dX4_tryLetter_37 rfl (lv_at hl 1 rfl) ?_
          refine lv_iload_n hx hb dX4_tryLetter_38 rfl (lv_at hl 2 rfl) ?_
          refine lv_iload_n hx hb dX4_tryLetter_39 rfl (lv_at hl 4 rfl) ?_
          refine zcv (zrV (As := [.int (nI x), .int 1, .int time]) (rest := []) ⟨hx, hb, hml, hown, hts⟩ (zV 3 hP hD hK hE hB hS rfl rfl) (c_X1_learn_k (k := x) (b := true) (by omega)) (cwV 3 hts gX4_tryLetter_X1_learn rfl rfl rfl hdv_X1_learn ⟨Nat.le_of_ble_eq_true rfl, Nat.le_of_ble_eq_true rfl⟩) rfl rfl hl.1 rfl (lv_room (Nat.le_of_ble_eq_true rfl)) dX4_tryLetter_40 ⟨Nat.le_of_ble_eq_true rfl, Nat.le_of_ble_eq_true rfl⟩) hS (fun H locs hP hD hS => ?_)
          have hP : va_P D vwCl (zWT cI cJ h (n, L) ((zkt kt x), (zkm true km x), (zkl true kl x time)) (pt, pm, pl) (nu, le, ow, fo, run, wc, lc, tr, cl, tm, (ms9 + 1)) (yl, yc, yt, co, pa, su, sc) mc ++ R) _ := hP
          have hD : va_D (zAb B) (zWT cI cJ h (n, L) ((zkt kt x), (zkm true km x), (zkl true kl x time)) (pt, pm, pl) (nu, le, ow, fo, run, wc, lc, tr, cl, tm, (ms9 + 1)) (yl, yc, yt, co, pa, su, sc) mc ++ R) := hD
          refine lv_iload hx hb dX4_tryLetter_43 (lv_at hl 0 rfl) ?_
          refine lv_iconst (v := (-1)) hx hb dX4_tryLetter_45 (by decide) ?_
          refine lv_icmp_eq (tgt := 64) hx hb dX4_tryLetter_46 (by decide) (fun c_26 => ?_) (fun c_26 => ?_)
          · skip
            exact absurd c_26 (nI_m1 (by omega))
          · skip
            refine lv_aload_n hx hb dX4_tryLetter_49 rfl (lv_at hl 3 rfl) ?_
            refine va_get (ci := 4) (v := .ref (h 7)) (C := RX4) (T := TX4) (N := 6) hx hb hts hinX4 hown hK hP 0 rfl rfl 2 (by decide) (hts (.fieldLink RX4 25 "TypingTutor" "pairs" "LTypingTutor$Knowledge;") (List.mem_of_getElem? (i := 3) rfl)) (fun _ h9 => h9) rfl dX4_tryLetter_50 ?_
            refine lv_iload hx hb dX4_tryLetter_53 (lv_at hl 0 rfl) ?_
            refine lv_iload_n hx hb dX4_tryLetter_55 rfl (lv_at hl 1 rfl) ?_
            refine zci (zrS (As := [.int (nI y9), .int (nI x)]) (rest := [.ref (h 7)]) ⟨hx, hb, hml, hown, hts⟩ (zS hP hD hK hE hB hS) (c_X4_pairOf  ) (va_cwS 2 hts gX4_tryLetter_X4_pairOf rfl rfl rfl hds_X4_pairOf ⟨Nat.le_of_ble_eq_true rfl, Nat.le_of_ble_eq_true rfl⟩) rfl rfl hl.1 rfl (lv_room (Nat.le_of_ble_eq_true rfl)) dX4_tryLetter_56 ⟨Nat.le_of_ble_eq_true rfl, Nat.le_of_ble_eq_true rfl⟩) hS (fun H locs hP hD hS => ?_)
            have hP : va_P D vwCl (zWT cI cJ h (n, L) ((zkt kt x), (zkm true km x), (zkl true kl x time)) (pt, pm, pl) (nu, le, ow, fo, run, wc, lc, tr, cl, tm, (ms9 + 1)) (yl, yc, yt, co, pa, su, sc) mc ++ R) _ := hP
            have hD : va_D (zAb B) (zWT cI cJ h (n, L) ((zkt kt x), (zkm true km x), (zkl true kl x time)) (pt, pm, pl) (nu, le, ow, fo, run, wc, lc, tr, cl, tm, (ms9 + 1)) (yl, yc, yt, co, pa, su, sc) mc ++ R) := hD
            rw [show (26 * (nI y9) + (nI x)) = (nI (26 * y9 + x)) from (by rw [show (26 : Int32) = nI 26 from rfl, pk_mul, nI_add])]
            refine lv_iload_n hx hb dX4_tryLetter_59 rfl (lv_at hl 2 rfl) ?_
            refine lv_iload_n hx hb dX4_tryLetter_60 rfl (lv_at hl 4 rfl) ?_
            refine zcv (zrV (As := [.int (nI (26 * y9 + x)), .int 1, .int time]) (rest := []) ⟨hx, hb, hml, hown, hts⟩ (zV 7 hP hD hK hE hB hS rfl rfl) (c_X1_learn_p (k := (26 * y9 + x)) (b := true) (by omega)) (cwV 3 hts gX4_tryLetter_X1_learn rfl rfl rfl hdv_X1_learn ⟨Nat.le_of_ble_eq_true rfl, Nat.le_of_ble_eq_true rfl⟩) rfl rfl hl.1 rfl (lv_room (Nat.le_of_ble_eq_true rfl)) dX4_tryLetter_61 ⟨Nat.le_of_ble_eq_true rfl, Nat.le_of_ble_eq_true rfl⟩) hS (fun H locs hP hD hS => ?_)
            have hP : va_P D vwCl (zWT cI cJ h (n, L) ((zkt kt x), (zkm true km x), (zkl true kl x time)) ((zkt pt (26 * y9 + x)), (zkm true pm (26 * y9 + x)), (zkl true pl (26 * y9 + x) time)) (nu, le, ow, fo, run, wc, lc, tr, cl, tm, (ms9 + 1)) (yl, yc, yt, co, pa, su, sc) mc ++ R) _ := hP
            have hD : va_D (zAb B) (zWT cI cJ h (n, L) ((zkt kt x), (zkm true km x), (zkl true kl x time)) ((zkt pt (26 * y9 + x)), (zkm true pm (26 * y9 + x)), (zkl true pl (26 * y9 + x) time)) (nu, le, ow, fo, run, wc, lc, tr, cl, tm, (ms9 + 1)) (yl, yc, yt, co, pa, su, sc) mc ++ R) := hD
            refine lv_aload_n hx hb dX4_tryLetter_64 rfl (lv_at hl 3 rfl) ?_
            refine va_get (ci := 4) (v := .ref (h 11)) (C := RX4) (T := TX4) (N := 6) hx hb hts hinX4 hown hK hP 0 rfl rfl 3 (by decide) (hts (.fieldLink RX4 31 "TypingTutor" "current" "LTypingTutor$Lesson;") (List.mem_of_getElem? (i := 1) rfl)) (fun _ h9 => h9) rfl dX4_tryLetter_65 ?_
            refine lv_iload_n hx hb dX4_tryLetter_68 rfl (lv_at hl 2 rfl) ?_
            refine zcv (zrV (As := [.int 1]) (rest := []) ⟨hx, hb, hml, hown, hts⟩ (zV 11 hP hD hK hE hB hS rfl rfl) (c_X2_goOn_1  ) (cwV 1 hts gX4_tryLetter_X2_goOn rfl rfl rfl hdv_X2_goOn ⟨Nat.le_of_ble_eq_true rfl, Nat.le_of_ble_eq_true rfl⟩) rfl rfl hl.1 rfl (lv_room (Nat.le_of_ble_eq_true rfl)) dX4_tryLetter_69 ⟨Nat.le_of_ble_eq_true rfl, Nat.le_of_ble_eq_true rfl⟩) hS (fun H locs hP hD hS => ?_)
            have hP : va_P D vwCl (zWT cI cJ h (n, L) ((zkt kt x), (zkm true km x), (zkl true kl x time)) ((zkt pt (26 * y9 + x)), (zkm true pm (26 * y9 + x)), (zkl true pl (26 * y9 + x) time)) (nu, le, ow, fo, run, wc, lc, (tr + 1), (cl + 1), tm, 0) (yl, yc, yt, co, pa, su, sc) mc ++ R) _ := hP
            have hD : va_D (zAb B) (zWT cI cJ h (n, L) ((zkt kt x), (zkm true km x), (zkl true kl x time)) ((zkt pt (26 * y9 + x)), (zkm true pm (26 * y9 + x)), (zkl true pl (26 * y9 + x) time)) (nu, le, ow, fo, run, wc, lc, (tr + 1), (cl + 1), tm, 0) (yl, yc, yt, co, pa, su, sc) mc ++ R) := hD
            refine lv_aload_n hx hb dX4_tryLetter_72 rfl (lv_at hl 3 rfl) ?_
            refine va_get (ci := 4) (v := .ref (h 11)) (C := RX4) (T := TX4) (N := 6) hx hb hts hinX4 hown hK hP 0 rfl rfl 3 (by decide) (hts (.fieldLink RX4 31 "TypingTutor" "current" "LTypingTutor$Lesson;") (List.mem_of_getElem? (i := 1) rfl)) (fun _ h9 => h9) rfl dX4_tryLetter_73 ?_
            refine zci (zrV (As := []) (rest := []) ⟨hx, hb, hml, hown, hts⟩ (zV 11 hP hD hK hE hB hS rfl rfl) (c_X2_triedTotal  ) (cwV 0 hts gX4_tryLetter_X2_triedTotal rfl rfl rfl hdv_X2_triedTotal ⟨Nat.le_of_ble_eq_true rfl, Nat.le_of_ble_eq_true rfl⟩) rfl rfl hl.1 rfl (lv_room (Nat.le_of_ble_eq_true rfl)) dX4_tryLetter_76 ⟨Nat.le_of_ble_eq_true rfl, Nat.le_of_ble_eq_true rfl⟩) hS (fun H locs hP hD hS => ?_)
            have hP : va_P D vwCl (zWT cI cJ h (n, L) ((zkt kt x), (zkm true km x), (zkl true kl x time)) ((zkt pt (26 * y9 + x)), (zkm true pm (26 * y9 + x)), (zkl true pl (26 * y9 + x) time)) (nu, le, ow, fo, run, wc, lc, (tr + 1), (cl + 1), tm, 0) (yl, yc, yt, co, pa, su, sc) mc ++ R) _ := hP
            have hD : va_D (zAb B) (zWT cI cJ h (n, L) ((zkt kt x), (zkm true km x), (zkl true kl x time)) ((zkt pt (26 * y9 + x)), (zkm true pm (26 * y9 + x)), (zkl true pl (26 * y9 + x) time)) (nu, le, ow, fo, run, wc, lc, (tr + 1), (cl + 1), tm, 0) (yl, yc, yt, co, pa, su, sc) mc ++ R) := hD
            refine lv_aload_n hx hb dX4_tryLetter_79 rfl (lv_at hl 3 rfl) ?_
            refine va_get (ci := 4) (v := .ref (h 11)) (C := RX4) (T := TX4) (N := 6) hx hb hts hinX4 hown hK hP 0 rfl rfl 3 (by decide) (hts (.fieldLink RX4 31 "TypingTutor" "current" "LTypingTutor$Lesson;") (List.mem_of_getElem? (i := 1) rfl)) (fun _ h9 => h9) rfl dX4_tryLetter_80 ?_
            refine zci (zrV (As := []) (rest := [.int (nI (tr + 1))]) ⟨hx, hb, hml, hown, hts⟩ (zV 11 hP hD hK hE hB hS rfl rfl) (c_X2_letterTotal  ) (cwV 0 hts gX4_tryLetter_X2_letterTotal rfl rfl rfl hdv_X2_letterTotal ⟨Nat.le_of_ble_eq_true rfl, Nat.le_of_ble_eq_true rfl⟩) rfl rfl hl.1 rfl (lv_room (Nat.le_of_ble_eq_true rfl)) dX4_tryLetter_83 ⟨Nat.le_of_ble_eq_true rfl, Nat.le_of_ble_eq_true rfl⟩) hS (fun H locs hP hD hS => ?_)
            have hP : va_P D vwCl (zWT cI cJ h (n, L) ((zkt kt x), (zkm true km x), (zkl true kl x time)) ((zkt pt (26 * y9 + x)), (zkm true pm (26 * y9 + x)), (zkl true pl (26 * y9 + x) time)) (nu, le, ow, fo, run, wc, lc, (tr + 1), (cl + 1), tm, 0) (yl, yc, yt, co, pa, su, sc) mc ++ R) _ := hP
            have hD : va_D (zAb B) (zWT cI cJ h (n, L) ((zkt kt x), (zkm true km x), (zkl true kl x time)) ((zkt pt (26 * y9 + x)), (zkm true pm (26 * y9 + x)), (zkl true pl (26 * y9 + x) time)) (nu, le, ow, fo, run, wc, lc, (tr + 1), (cl + 1), tm, 0) (yl, yc, yt, co, pa, su, sc) mc ++ R) := hD
            refine lv_icmp_lt (tgt := 124) hx hb dX4_tryLetter_86 (by decide) (fun c_27 => ?_) (fun c_27 => ?_)
            · skip
              have c_27 : (tr + 1) < lc := (nI_ltI (a := (tr + 1)) (b := lc) (by omega) (by omega)).mp c_27
              exact W.vret hx hb hr (fun t ht hW => ⟨⟨(), rfl, trivial, by rw [ht]; exact hP, hD⟩, hS.F ht⟩) hS.2.2 dX4_tryLetter_124
            · skip
              have c_27 : ¬ (tr + 1) < lc := fun hh => c_27 ((nI_ltI (a := (tr + 1)) (b := lc) (by omega) (by omega)).mpr hh)
              refine lv_aload_n hx hb dX4_tryLetter_89 rfl (lv_at hl 3 rfl) ?_
              refine va_get (ci := 4) (v := .ref (h 11)) (C := RX4) (T := TX4) (N := 6) hx hb hts hinX4 hown hK hP 0 rfl rfl 3 (by decide) (hts (.fieldLink RX4 31 "TypingTutor" "current" "LTypingTutor$Lesson;") (List.mem_of_getElem? (i := 1) rfl)) (fun _ h9 => h9) rfl dX4_tryLetter_90 ?_
              refine zcv (zrV (As := []) (rest := []) ⟨hx, hb, hml, hown, hts⟩ (zV 11 hP hD hK hE hB hS rfl rfl) (c_X2_stop  ) (cwV 0 hts gX4_tryLetter_X2_stop rfl rfl rfl hdv_X2_stop ⟨Nat.le_of_ble_eq_true rfl, Nat.le_of_ble_eq_true rfl⟩) rfl rfl hl.1 rfl (lv_room (Nat.le_of_ble_eq_true rfl)) dX4_tryLetter_93 ⟨Nat.le_of_ble_eq_true rfl, Nat.le_of_ble_eq_true rfl⟩) hS (fun H locs hP hD hS => ?_)
              have hP : va_P D vwCl (zWT cI cJ h (n, L) ((zkt kt x), (zkm true km x), (zkl true kl x time)) ((zkt pt (26 * y9 + x)), (zkm true pm (26 * y9 + x)), (zkl true pl (26 * y9 + x) time)) (nu, le, ow, fo, false, wc, lc, (tr + 1), (cl + 1), tm, 0) (yl, yc, yt, co, pa, su, sc) mc ++ R) _ := hP
              have hD : va_D (zAb B) (zWT cI cJ h (n, L) ((zkt kt x), (zkm true km x), (zkl true kl x time)) ((zkt pt (26 * y9 + x)), (zkm true pm (26 * y9 + x)), (zkl true pl (26 * y9 + x) time)) (nu, le, ow, fo, false, wc, lc, (tr + 1), (cl + 1), tm, 0) (yl, yc, yt, co, pa, su, sc) mc ++ R) := hD
              refine lv_aload_n hx hb dX4_tryLetter_96 rfl (lv_at hl 3 rfl) ?_
              refine va_get (ci := 4) (v := .ref (h 16)) (C := RX4) (T := TX4) (N := 6) hx hb hts hinX4 hown hK hP 0 rfl rfl 4 (by decide) (hts (.fieldLink RX4 38 "TypingTutor" "past" "LTypingTutor$History;") (List.mem_of_getElem? (i := 4) rfl)) (fun _ h9 => h9) rfl dX4_tryLetter_97 ?_
              refine lv_aload_n hx hb dX4_tryLetter_100 rfl (lv_at hl 3 rfl) ?_
              refine va_get (ci := 4) (v := .ref (h 11)) (C := RX4) (T := TX4) (N := 6) hx hb hts hinX4 hown hK hP 0 rfl rfl 3 (by decide) (hts (.fieldLink RX4 31 "TypingTutor" "current" "LTypingTutor$Lesson;") (List.mem_of_getElem? (i := 1) rfl)) (fun _ h9 => h9) rfl dX4_tryLetter_101 ?_
              refine zci (zrV (As := []) (rest := [.ref (h 16)]) ⟨hx, hb, hml, hown, hts⟩ (zV 11 hP hD hK hE hB hS rfl rfl) (c_X2_letterTotal  ) (cwV 0 hts gX4_tryLetter_X2_letterTotal rfl rfl rfl hdv_X2_letterTotal ⟨Nat.le_of_ble_eq_true rfl, Nat.le_of_ble_eq_true rfl⟩) rfl rfl hl.1 rfl (lv_room (Nat.le_of_ble_eq_true rfl)) dX4_tryLetter_104 ⟨Nat.le_of_ble_eq_true rfl, Nat.le_of_ble_eq_true rfl⟩) hS (fun H locs hP hD hS => ?_)
              have hP : va_P D vwCl (zWT cI cJ h (n, L) ((zkt kt x), (zkm true km x), (zkl true kl x time)) ((zkt pt (26 * y9 + x)), (zkm true pm (26 * y9 + x)), (zkl true pl (26 * y9 + x) time)) (nu, le, ow, fo, false, wc, lc, (tr + 1), (cl + 1), tm, 0) (yl, yc, yt, co, pa, su, sc) mc ++ R) _ := hP
              have hD : va_D (zAb B) (zWT cI cJ h (n, L) ((zkt kt x), (zkm true km x), (zkl true kl x time)) ((zkt pt (26 * y9 + x)), (zkm true pm (26 * y9 + x)), (zkl true pl (26 * y9 + x) time)) (nu, le, ow, fo, false, wc, lc, (tr + 1), (cl + 1), tm, 0) (yl, yc, yt, co, pa, su, sc) mc ++ R) := hD
              refine lv_aload_n hx hb dX4_tryLetter_107 rfl (lv_at hl 3 rfl) ?_
              refine va_get (ci := 4) (v := .ref (h 11)) (C := RX4) (T := TX4) (N := 6) hx hb hts hinX4 hown hK hP 0 rfl rfl 3 (by decide) (hts (.fieldLink RX4 31 "TypingTutor" "current" "LTypingTutor$Lesson;") (List.mem_of_getElem? (i := 1) rfl)) (fun _ h9 => h9) rfl dX4_tryLetter_108 ?_
              refine zci (zrV (As := []) (rest := [.int (nI lc), .ref (h 16)]) ⟨hx, hb, hml, hown, hts⟩ (zV 11 hP hD hK hE hB hS rfl rfl) (c_X2_cleanTotal  ) (cwV 0 hts gX4_tryLetter_X2_cleanTotal rfl rfl rfl hdv_X2_cleanTotal ⟨Nat.le_of_ble_eq_true rfl, Nat.le_of_ble_eq_true rfl⟩) rfl rfl hl.1 rfl (lv_room (Nat.le_of_ble_eq_true rfl)) dX4_tryLetter_111 ⟨Nat.le_of_ble_eq_true rfl, Nat.le_of_ble_eq_true rfl⟩) hS (fun H locs hP hD hS => ?_)
              have hP : va_P D vwCl (zWT cI cJ h (n, L) ((zkt kt x), (zkm true km x), (zkl true kl x time)) ((zkt pt (26 * y9 + x)), (zkm true pm (26 * y9 + x)), (zkl true pl (26 * y9 + x) time)) (nu, le, ow, fo, false, wc, lc, (tr + 1), (cl + 1), tm, 0) (yl, yc, yt, co, pa, su, sc) mc ++ R) _ := hP
              have hD : va_D (zAb B) (zWT cI cJ h (n, L) ((zkt kt x), (zkm true km x), (zkl true kl x time)) ((zkt pt (26 * y9 + x)), (zkm true pm (26 * y9 + x)), (zkl true pl (26 * y9 + x) time)) (nu, le, ow, fo, false, wc, lc, (tr + 1), (cl + 1), tm, 0) (yl, yc, yt, co, pa, su, sc) mc ++ R) := hD
              refine lv_aload_n hx hb dX4_tryLetter_114 rfl (lv_at hl 3 rfl) ?_
              refine va_get (ci := 4) (v := .ref (h 11)) (C := RX4) (T := TX4) (N := 6) hx hb hts hinX4 hown hK hP 0 rfl rfl 3 (by decide) (hts (.fieldLink RX4 31 "TypingTutor" "current" "LTypingTutor$Lesson;") (List.mem_of_getElem? (i := 1) rfl)) (fun _ h9 => h9) rfl dX4_tryLetter_115 ?_
              refine zci (zrV (As := []) (rest := [.int (nI (cl + 1)), .int (nI lc), .ref (h 16)]) ⟨hx, hb, hml, hown, hts⟩ (zV 11 hP hD hK hE hB hS rfl rfl) (c_X2_timeSum  ) (cwV 0 hts gX4_tryLetter_X2_timeSum rfl rfl rfl hdv_X2_timeSum ⟨Nat.le_of_ble_eq_true rfl, Nat.le_of_ble_eq_true rfl⟩) rfl rfl hl.1 rfl (lv_room (Nat.le_of_ble_eq_true rfl)) dX4_tryLetter_118 ⟨Nat.le_of_ble_eq_true rfl, Nat.le_of_ble_eq_true rfl⟩) hS (fun H locs hP hD hS => ?_)
              have hP : va_P D vwCl (zWT cI cJ h (n, L) ((zkt kt x), (zkm true km x), (zkl true kl x time)) ((zkt pt (26 * y9 + x)), (zkm true pm (26 * y9 + x)), (zkl true pl (26 * y9 + x) time)) (nu, le, ow, fo, false, wc, lc, (tr + 1), (cl + 1), tm, 0) (yl, yc, yt, co, pa, su, sc) mc ++ R) _ := hP
              have hD : va_D (zAb B) (zWT cI cJ h (n, L) ((zkt kt x), (zkm true km x), (zkl true kl x time)) ((zkt pt (26 * y9 + x)), (zkm true pm (26 * y9 + x)), (zkl true pl (26 * y9 + x) time)) (nu, le, ow, fo, false, wc, lc, (tr + 1), (cl + 1), tm, 0) (yl, yc, yt, co, pa, su, sc) mc ++ R) := hD
              refine zcv (zrV (As := [.int (nI lc), .int (nI (cl + 1)), .int (nI tm)]) (rest := []) ⟨hx, hb, hml, hown, hts⟩ (zV 16 hP hD hK hE hB hS rfl rfl) (c_X0_keep (lt := lc) (ct := (cl + 1)) (ts := tm) (by omega) (by omega) (by omega)) (cwV 3 hts gX4_tryLetter_X0_keep rfl rfl rfl hdv_X0_keep ⟨Nat.le_of_ble_eq_true rfl, Nat.le_of_ble_eq_true rfl⟩) rfl rfl hl.1 rfl (lv_room (Nat.le_of_ble_eq_true rfl)) dX4_tryLetter_121 ⟨Nat.le_of_ble_eq_true rfl, Nat.le_of_ble_eq_true rfl⟩) hS (fun H locs hP hD hS => ?_)
              have hP : va_P D vwCl (zWT cI cJ h (n, L) ((zkt kt x), (zkm true km x), (zkl true kl x time)) ((zkt pt (26 * y9 + x)), (zkm true pm (26 * y9 + x)), (zkl true pl (26 * y9 + x) time)) (nu, le, ow, fo, false, wc, lc, (tr + 1), (cl + 1), tm, 0) ((upd yl co (nI lc)), (upd yc co (nI (cl + 1))), (upd yt co (nI tm)), (co + 1), (zpc pa lc (cl + 1)), (su + lc), (sc + (cl + 1))) mc ++ R) _ := hP
              have hD : va_D (zAb B) (zWT cI cJ h (n, L) ((zkt kt x), (zkm true km x), (zkl true kl x time)) ((zkt pt (26 * y9 + x)), (zkm true pm (26 * y9 + x)), (zkl true pl (26 * y9 + x) time)) (nu, le, ow, fo, false, wc, lc, (tr + 1), (cl + 1), tm, 0) ((upd yl co (nI lc)), (upd yc co (nI (cl + 1))), (upd yt co (nI tm)), (co + 1), (zpc pa lc (cl + 1)), (su + lc), (sc + (cl + 1))) mc ++ R) := hD
              exact W.vret hx hb hr (fun t ht hW => ⟨⟨(), rfl, trivial, by rw [ht]; exact hP, hD⟩, hS.F ht⟩) hS.2.2 dX4_tryLetter_124
      | false =>
        refine Met.ofW (cc := cX4_tryLetter) (maxL := 5) (ret := none) (by decide) rfl ?_
        intro p e s m args below meth c s₁ B0 hml hv
        obtain ⟨rfl, hP, hD, hK, hE, hB⟩ := hv
        have hx := B0.exec
        have hb := B0.bytes
        have hr := B0.returns
        have hts := atoms_spec (ws := wsX4_tryLetter) B0.pre
        have hown : s.vm.findClass RX4 = some m.cls := findClass_of_methodNamed B0.named
        have hlocks := B0.notSynchronized
        have hA : ∀ q : Nat, s.heap.size ≤ q → zAb B q := fun q hq => Nat.le_trans hB hq
        have hS : va_S (zAb B) s.heap s.heap [] := va_S.rf
        have hl := lv_entry ([.ref (h 0), .int time]) (n := 5) (Nat.le_of_ble_eq_true rfl)
        rw [lg_entry_eq]
        generalize (lg_sl ([.ref (h 0), .int time]) ++ List.replicate (5 - (lg_sl ([.ref (h 0), .int time])).length) Slot.unset).toArray = ls at hl ⊢
        have hl : lv_has ls 5 [(0, .ref (h 0)), (1, .int time)] := hl
        have hinX4 : ∀ w ∈ wsX40, w ∈ wsX4_tryLetter := fun _ h => List.mem_cons_of_mem _ (List.mem_append_left _ (List.mem_append_left _ (List.mem_append_left _ (List.mem_append_right _ h))))
        have hP : va_P D vwCl (zWT cI cJ h (n, L) (kt, km, kl) (pt, pm, pl) (nu, le, ow, fo, run, wc, lc, tr, cl, tm, (ms9 + 1)) (yl, yc, yt, co, pa, su, sc) mc ++ R) s.heap := hP
        have hD : va_D (zAb B) (zWT cI cJ h (n, L) (kt, km, kl) (pt, pm, pl) (nu, le, ow, fo, run, wc, lc, tr, cl, tm, (ms9 + 1)) (yl, yc, yt, co, pa, su, sc) mc ++ R) := hD
        have hy : y9 < 26 := hoy y9 rfl
        have hf : tr + 1 < lc := hf
        refine lv_aload_n hx hb dX4_tryLetter_0 rfl (lv_at hl 0 rfl) ?_
        refine va_get (ci := 4) (v := .ref (h 11)) (C := RX4) (T := TX4) (N := 6) hx hb hts hinX4 hown hK hP 0 rfl rfl 3 (by decide) (hts (.fieldLink RX4 31 "TypingTutor" "current" "LTypingTutor$Lesson;") (List.mem_of_getElem? (i := 1) rfl)) (fun _ h9 => h9) rfl dX4_tryLetter_1 ?_
        refine zci (zrV (As := []) (rest := []) ⟨hx, hb, hml, hown, hts⟩ (zV 11 hP hD hK hE hB hS rfl rfl) (c_X2_mistakesHere  ) (cwV 0 hts gX4_tryLetter_X2_mistakesHere rfl rfl rfl hdv_X2_mistakesHere ⟨Nat.le_of_ble_eq_true rfl, Nat.le_of_ble_eq_true rfl⟩) rfl rfl hl.1 rfl (lv_room (Nat.le_of_ble_eq_true rfl)) dX4_tryLetter_4 ⟨Nat.le_of_ble_eq_true rfl, Nat.le_of_ble_eq_true rfl⟩) hS (fun H locs hP hD hS => ?_)
        have hP : va_P D vwCl (zWT cI cJ h (n, L) (kt, km, kl) (pt, pm, pl) (nu, le, ow, fo, run, wc, lc, tr, cl, tm, (ms9 + 1)) (yl, yc, yt, co, pa, su, sc) mc ++ R) _ := hP
        have hD : va_D (zAb B) (zWT cI cJ h (n, L) (kt, km, kl) (pt, pm, pl) (nu, le, ow, fo, run, wc, lc, tr, cl, tm, (ms9 + 1)) (yl, yc, yt, co, pa, su, sc) mc ++ R) := hD
        refine lv_if_ne (tgt := 14) hx hb dX4_tryLetter_7 (by decide) (fun c_28 => ?_) (fun c_28 => ?_)
        · skip
          have c_28 : ¬ (ms9 + 1) = 0 := fun hh => c_28 ((nI_eq (a := (ms9 + 1)) (b := 0) (by omega) (by omega)).mpr hh)
          refine lv_iconst (v := 0) hx hb dX4_tryLetter_14 (by decide) ?_
          refine lv_istore_n (lv' := [(2, .int 0), (0, .ref (h 0)), (1, .int time)]) hx hb dX4_tryLetter_15 rfl hl (by decide) rfl (fun ls hl => ?_)
          refine lv_aload_n hx hb dX4_tryLetter_16 rfl (lv_at hl 1 rfl) ?_
          refine va_get (ci := 4) (v := .ref (h 11)) (C := RX4) (T := TX4) (N := 6) hx hb hts hinX4 hown hK hP 0 rfl rfl 3 (by decide) (hts (.fieldLink RX4 31 "TypingTutor" "current" "LTypingTutor$Lesson;") (List.mem_of_getElem? (i := 1) rfl)) (fun _ h9 => h9) rfl dX4_tryLetter_17 ?_
          refine zci (zrV (As := []) (rest := []) ⟨hx, hb, hml, hown, hts⟩ (zV 11 hP hD hK hE hB hS rfl rfl) (c_X2_letterHere  (by omega)) (cwV 0 hts gX4_tryLetter_X2_letterHere rfl rfl rfl hdv_X2_letterHere ⟨Nat.le_of_ble_eq_true rfl, Nat.le_of_ble_eq_true rfl⟩) rfl rfl hl.1 rfl (lv_room (Nat.le_of_ble_eq_true rfl)) dX4_tryLetter_20 ⟨Nat.le_of_ble_eq_true rfl, Nat.le_of_ble_eq_true rfl⟩) hS (fun H locs hP hD hS => ?_)
          have hP : va_P D vwCl (zWT cI cJ h (n, L) (kt, km, kl) (pt, pm, pl) (nu, le, ow, fo, run, wc, lc, tr, cl, tm, (ms9 + 1)) (yl, yc, yt, co, pa, su, sc) mc ++ R) _ := hP
          have hD : va_D (zAb B) (zWT cI cJ h (n, L) (kt, km, kl) (pt, pm, pl) (nu, le, ow, fo, run, wc, lc, tr, cl, tm, (ms9 + 1)) (yl, yc, yt, co, pa, su, sc) mc ++ R) := hD
          rw [show (le tr) = (nI x) from hx9]
          refine lv_istore_n (lv' := [(3, .int (nI x)), (2, .int 0), (0, .ref (h 0)), (1, .int time)]) hx hb dX4_tryLetter_23 rfl hl (by decide) rfl (fun ls hl => ?_)
          refine lv_aload_n hx hb dX4_tryLetter_24 rfl (lv_at hl 2 rfl) ?_
          refine va_get (ci := 4) (v := .ref (h 11)) (C := RX4) (T := TX4) (N := 6) hx hb hts hinX4 hown hK hP 0 rfl rfl 3 (by decide) (hts (.fieldLink RX4 31 "TypingTutor" "current" "LTypingTutor$Lesson;") (List.mem_of_getElem? (i := 1) rfl)) (fun _ h9 => h9) rfl dX4_tryLetter_25 ?_
          refine zci (zrV (As := []) (rest := []) ⟨hx, hb, hml, hown, hts⟩ (zV 11 hP hD hK hE hB hS rfl rfl) (c_X2_letterBefore  (by omega) (by omega)) (cwV 0 hts gX4_tryLetter_X2_letterBefore rfl rfl rfl hdv_X2_letterBefore ⟨Nat.le_of_ble_eq_true rfl, Nat.le_of_ble_eq_true rfl⟩) rfl rfl hl.1 rfl (lv_room (Nat.le_of_ble_eq_true rfl)) dX4_tryLetter_28 ⟨Nat.le_of_ble_eq_true rfl, Nat.le_of_ble_eq_true rfl⟩) hS (fun H locs hP hD hS => ?_)
          have hP : va_P D vwCl (zWT cI cJ h (n, L) (kt, km, kl) (pt, pm, pl) (nu, le, ow, fo, run, wc, lc, tr, cl, tm, (ms9 + 1)) (yl, yc, yt, co, pa, su, sc) mc ++ R) _ := hP
          have hD : va_D (zAb B) (zWT cI cJ h (n, L) (kt, km, kl) (pt, pm, pl) (nu, le, ow, fo, run, wc, lc, tr, cl, tm, (ms9 + 1)) (yl, yc, yt, co, pa, su, sc) mc ++ R) := hD
          rw [show (zis le ow lc tr (nI tr - 1)) = (nI y9) from ho]
          refine lv_istore (lv' := [(4, .int (nI y9)), (3, .int (nI x)), (2, .int 0), (0, .ref (h 0)), (1, .int time)]) hx hb dX4_tryLetter_31 hl (by decide) rfl (fun ls hl => ?_)
          refine lv_aload_n hx hb dX4_tryLetter_33 rfl (lv_at hl 3 rfl) ?_
          refine va_get (ci := 4) (v := .ref (h 3)) (C := RX4) (T := TX4) (N := 6) hx hb hts hinX4 hown hK hP 0 rfl rfl 1 (by decide) (hts (.fieldLink RX4 21 "TypingTutor" "keys" "LTypingTutor$Knowledge;") (List.mem_of_getElem? (i := 2) rfl)) (fun _ h9 => h9) rfl dX4_tryLetter_34 ?_
          refine lv_iload_n hx hb dX4_tryLetter_37 rfl (lv_at hl 1 rfl) ?_
          refine lv_iload_n hx hb dX4_tryLetter_38 rfl (lv_at hl 2 rfl) ?_
          refine lv_iload_n hx hb dX4_tryLetter_39 rfl (lv_at hl 4 rfl) ?_
          refine zcv (zrV (As := [.int (nI x), .int 0, .int time]) (rest := []) ⟨hx, hb, hml, hown, hts⟩ (zV 3 hP hD hK hE hB hS rfl rfl) (c_X1_learn_k (k := x) (b := false) (by omega)) (cwV 3 hts gX4_tryLetter_X1_learn rfl rfl rfl hdv_X1_learn ⟨Nat.le_of_ble_eq_true rfl, Nat.le_of_ble_eq_true rfl⟩) rfl rfl hl.1 rfl (lv_room (Nat.le_of_ble_eq_true rfl)) dX4_tryLetter_40 ⟨Nat.le_of_ble_eq_true rfl, Nat.le_of_ble_eq_true rfl⟩) hS (fun H locs hP hD hS => ?_)
          have hP : va_P D vwCl (zWT cI cJ h (n, L) ((zkt kt x), (zkm false km x), (zkl false kl x time)) (pt, pm, pl) (nu, le, ow, fo, run, wc, lc, tr, cl, tm, (ms9 + 1)) (yl, yc, yt, co, pa, su, sc) mc ++ R) _ := hP
          have hD : va_D (zAb B) (zWT cI cJ h (n, L) ((zkt kt x), (zkm false km x), (zkl false kl x time)) (pt, pm, pl) (nu, le, ow, fo, run, wc, lc, tr, cl, tm, (ms9 + 1)) (yl, yc, yt, co, pa, su, sc) mc ++ R) := hD
          refine lv_iload hx hb dX4_tryLetter_43 (lv_at hl 0 rfl) ?_
          refine lv_iconst (v := (-1)) hx hb dX4_tryLetter_45 (by decide) ?_
          refine lv_icmp_eq (tgt := 64) hx hb dX4_tryLetter_46 (by decide) (fun c_29 => ?_) (fun c_29 => ?_)
          · skip
            exact absurd c_29 (nI_m1 (by omega))
          · skip
            refine lv_aload_n hx hb dX4_tryLetter_49 rfl (lv_at hl 3 rfl) ?_
            refine va_get (ci := 4) (v := .ref (h 7)) (C := RX4) (T := TX4) (N := 6) hx hb hts hinX4 hown hK hP 0 rfl rfl 2 (by decide) (hts (.fieldLink RX4 25 "TypingTutor" "pairs" "LTypingTutor$Knowledge;") (List.mem_of_getElem? (i := 3) rfl)) (fun _ h9 => h9) rfl dX4_tryLetter_50 ?_
            refine lv_iload hx hb dX4_tryLetter_53 (lv_at hl 0 rfl) ?_
            refine lv_iload_n hx hb dX4_tryLetter_55 rfl (lv_at hl 1 rfl) ?_
            refine zci (zrS (As := [.int (nI y9), .int (nI x)]) (rest := [.ref (h 7)]) ⟨hx, hb, hml, hown, hts⟩ (zS hP hD hK hE hB hS) (c_X4_pairOf  ) (va_cwS 2 hts gX4_tryLetter_X4_pairOf rfl rfl rfl hds_X4_pairOf ⟨Nat.le_of_ble_eq_true rfl, Nat.le_of_ble_eq_true rfl⟩) rfl rfl hl.1 rfl (lv_room (Nat.le_of_ble_eq_true rfl)) dX4_tryLetter_56 ⟨Nat.le_of_ble_eq_true rfl, Nat.le_of_ble_eq_true rfl⟩) hS (fun H locs hP hD hS => ?_)
            have hP : va_P D vwCl (zWT cI cJ h (n, L) ((zkt kt x), (zkm false km x), (zkl false kl x time)) (pt, pm, pl) (nu, le, ow, fo, run, wc, lc, tr, cl, tm, (ms9 + 1)) (yl, yc, yt, co, pa, su, sc) mc ++ R) _ := hP
            have hD : va_D (zAb B) (zWT cI cJ h (n, L) ((zkt kt x), (zkm false km x), (zkl false kl x time)) (pt, pm, pl) (nu, le, ow, fo, run, wc, lc, tr, cl, tm, (ms9 + 1)) (yl, yc, yt, co, pa, su, sc) mc ++ R) := hD
            rw [show (26 * (nI y9) + (nI x)) = (nI (26 * y9 + x)) from (by rw [show (26 : Int32) = nI 26 from rfl, pk_mul, nI_add])]
            refine lv_iload_n hx hb dX4_tryLetter_59 rfl (lv_at hl 2 rfl) ?_
            refine lv_iload_n hx hb dX4_tryLetter_60 rfl (lv_at hl 4 rfl) ?_
            refine zcv (zrV (As := [.int (nI (26 * y9 + x)), .int 0, .int time]) (rest := []) ⟨hx, hb, hml, hown, hts⟩ (zV 7 hP hD hK hE hB hS rfl rfl) (c_X1_learn_p (k := (26 * y9 + x)) (b := false) (by omega)) (cwV 3 hts gX4_tryLetter_X1_learn rfl rfl rfl hdv_X1_learn ⟨Nat.le_of_ble_eq_true rfl, Nat.le_of_ble_eq_true rfl⟩) rfl rfl hl.1 rfl (lv_room (Nat.le_of_ble_eq_true rfl)) dX4_tryLetter_61 ⟨Nat.le_of_ble_eq_true rfl, Nat.le_of_ble_eq_true rfl⟩) hS (fun H locs hP hD hS => ?_)
            have hP : va_P D vwCl (zWT cI cJ h (n, L) ((zkt kt x), (zkm false km x), (zkl false kl x time)) ((zkt pt (26 * y9 + x)), (zkm false pm (26 * y9 + x)), (zkl false pl (26 * y9 + x) time)) (nu, le, ow, fo, run, wc, lc, tr, cl, tm, (ms9 + 1)) (yl, yc, yt, co, pa, su, sc) mc ++ R) _ := hP
            have hD : va_D (zAb B) (zWT cI cJ h (n, L) ((zkt kt x), (zkm false km x), (zkl false kl x time)) ((zkt pt (26 * y9 + x)), (zkm false pm (26 * y9 + x)), (zkl false pl (26 * y9 + x) time)) (nu, le, ow, fo, run, wc, lc, tr, cl, tm, (ms9 + 1)) (yl, yc, yt, co, pa, su, sc) mc ++ R) := hD
            refine lv_aload_n hx hb dX4_tryLetter_64 rfl (lv_at hl 3 rfl) ?_
            refine va_get (ci := 4) (v := .ref (h 11)) (C := RX4) (T := TX4) (N := 6) hx hb hts hinX4 hown hK hP 0 rfl rfl 3 (by decide) (hts (.fieldLink RX4 31 "TypingTutor" "current" "LTypingTutor$Lesson;") (List.mem_of_getElem? (i := 1) rfl)) (fun _ h9 => h9) rfl dX4_tryLetter_65 ?_
            refine lv_iload_n hx hb dX4_tryLetter_68 rfl (lv_at hl 2 rfl) ?_
            refine zcv (zrV (As := [.int 0]) (rest := []) ⟨hx, hb, hml, hown, hts⟩ (zV 11 hP hD hK hE hB hS rfl rfl) (c_X2_goOn_0  ) (cwV 1 hts gX4_tryLetter_X2_goOn rfl rfl rfl hdv_X2_goOn ⟨Nat.le_of_ble_eq_true rfl, Nat.le_of_ble_eq_true rfl⟩) rfl rfl hl.1 rfl (lv_room (Nat.le_of_ble_eq_true rfl)) dX4_tryLetter_69 ⟨Nat.le_of_ble_eq_true rfl, Nat.le_of_ble_eq_true rfl⟩) hS (fun H locs hP hD hS => ?_)
            have hP : va_P D vwCl (zWT cI cJ h (n, L) ((zkt kt x), (zkm false km x), (zkl false kl x time)) ((zkt pt (26 * y9 + x)), (zkm false pm (26 * y9 + x)), (zkl false pl (26 * y9 + x) time)) (nu, le, ow, fo, run, wc, lc, (tr + 1), cl, tm, 0) (yl, yc, yt, co, pa, su, sc) mc ++ R) _ := hP
            have hD : va_D (zAb B) (zWT cI cJ h (n, L) ((zkt kt x), (zkm false km x), (zkl false kl x time)) ((zkt pt (26 * y9 + x)), (zkm false pm (26 * y9 + x)), (zkl false pl (26 * y9 + x) time)) (nu, le, ow, fo, run, wc, lc, (tr + 1), cl, tm, 0) (yl, yc, yt, co, pa, su, sc) mc ++ R) := hD
            refine lv_aload_n hx hb dX4_tryLetter_72 rfl (lv_at hl 3 rfl) ?_
            refine va_get (ci := 4) (v := .ref (h 11)) (C := RX4) (T := TX4) (N := 6) hx hb hts hinX4 hown hK hP 0 rfl rfl 3 (by decide) (hts (.fieldLink RX4 31 "TypingTutor" "current" "LTypingTutor$Lesson;") (List.mem_of_getElem? (i := 1) rfl)) (fun _ h9 => h9) rfl dX4_tryLetter_73 ?_
            refine zci (zrV (As := []) (rest := []) ⟨hx, hb, hml, hown, hts⟩ (zV 11 hP hD hK hE hB hS rfl rfl) (c_X2_triedTotal  ) (cwV 0 hts gX4_tryLetter_X2_triedTotal rfl rfl rfl hdv_X2_triedTotal ⟨Nat.le_of_ble_eq_true rfl, Nat.le_of_ble_eq_true rfl⟩) rfl rfl hl.1 rfl (lv_room (Nat.le_of_ble_eq_true rfl)) dX4_tryLetter_76 ⟨Nat.le_of_ble_eq_true rfl, Nat.le_of_ble_eq_true rfl⟩) hS (fun H locs hP hD hS => ?_)
            have hP : va_P D vwCl (zWT cI cJ h (n, L) ((zkt kt x), (zkm false km x), (zkl false kl x time)) ((zkt pt (26 * y9 + x)), (zkm false pm (26 * y9 + x)), (zkl false pl (26 * y9 + x) time)) (nu, le, ow, fo, run, wc, lc, (tr + 1), cl, tm, 0) (yl, yc, yt, co, pa, su, sc) mc ++ R) _ := hP
            have hD : va_D (zAb B) (zWT cI cJ h (n, L) ((zkt kt x), (zkm false km x), (zkl false kl x time)) ((zkt pt (26 * y9 + x)), (zkm false pm (26 * y9 + x)), (zkl false pl (26 * y9 + x) time)) (nu, le, ow, fo, run, wc, lc, (tr + 1), cl, tm, 0) (yl, yc, yt, co, pa, su, sc) mc ++ R) := hD
            refine lv_aload_n hx hb dX4_tryLetter_79 rfl (lv_at hl 3 rfl) ?_
            refine va_get (ci := 4) (v := .ref (h 11)) (C := RX4) (T := TX4) (N := 6) hx hb hts hinX4 hown hK hP 0 rfl rfl 3 (by decide) (hts (.fieldLink RX4 31 "TypingTutor" "current" "LTypingTutor$Lesson;") (List.mem_of_getElem? (i := 1) rfl)) (fun _ h9 => h9) rfl dX4_tryLetter_80 ?_
            refine zci (zrV (As := []) (rest := [.int (nI (tr + 1))]) ⟨hx, hb, hml, hown, hts⟩ (zV 11 hP hD hK hE hB hS rfl rfl) (c_X2_letterTotal  ) (cwV 0 hts gX4_tryLetter_X2_letterTotal rfl rfl rfl hdv_X2_letterTotal ⟨Nat.le_of_ble_eq_true rfl, Nat.le_of_ble_eq_true rfl⟩) rfl rfl hl.1 rfl (lv_room (Nat.le_of_ble_eq_true rfl)) dX4_tryLetter_83 ⟨Nat.le_of_ble_eq_true rfl, Nat.le_of_ble_eq_true rfl⟩) hS (fun H locs hP hD hS => ?_)
            have hP : va_P D vwCl (zWT cI cJ h (n, L) ((zkt kt x), (zkm false km x), (zkl false kl x time)) ((zkt pt (26 * y9 + x)), (zkm false pm (26 * y9 + x)), (zkl false pl (26 * y9 + x) time)) (nu, le, ow, fo, run, wc, lc, (tr + 1), cl, tm, 0) (yl, yc, yt, co, pa, su, sc) mc ++ R) _ := hP
            have hD : va_D (zAb B) (zWT cI cJ h (n, L) ((zkt kt x), (zkm false km x), (zkl false kl x time)) ((zkt pt (26 * y9 + x)), (zkm false pm (26 * y9 + x)), (zkl false pl (26 * y9 + x) time)) (nu, le, ow, fo, run, wc, lc, (tr + 1), cl, tm, 0) (yl, yc, yt, co, pa, su, sc) mc ++ R) := hD
            refine lv_icmp_lt (tgt := 124) hx hb dX4_tryLetter_86 (by decide) (fun c_30 => ?_) (fun c_30 => ?_)
            · skip
              have c_30 : (tr + 1) < lc := (nI_ltI (a := (tr + 1)) (b := lc) (by omega) (by omega)).mp c_30
              exact W.vret hx hb hr (fun t ht hW => ⟨⟨(), rfl, trivial, by rw [ht]; exact hP, hD⟩, hS.F ht⟩) hS.2.2 dX4_tryLetter_124
            · skip
              have c_30 : ¬ (tr + 1) < lc := fun hh => c_30 ((nI_ltI (a := (tr + 1)) (b := lc) (by omega) (by omega)).mpr hh)
              refine lv_aload_n hx hb dX4_tryLetter_89 rfl (lv_at hl 3 rfl) ?_
              refine va_get (ci := 4) (v := .ref (h 11)) (C := RX4) (T := TX4) (N := 6) hx hb hts hinX4 hown hK hP 0 rfl rfl 3 (by decide) (hts (.fieldLink RX4 31 "TypingTutor" "current" "LTypingTutor$Lesson;") (List.mem_of_getElem? (i := 1) rfl)) (fun _ h9 => h9) rfl dX4_tryLetter_90 ?_
              refine zcv (zrV (As := []) (rest := []) ⟨hx, hb, hml, hown, hts⟩ (zV 11 hP hD hK hE hB hS rfl rfl) (c_X2_stop  ) (cwV 0 hts gX4_tryLetter_X2_stop rfl rfl rfl hdv_X2_stop ⟨Nat.le_of_ble_eq_true rfl, Nat.le_of_ble_eq_true rfl⟩) rfl rfl hl.1 rfl (lv_room (Nat.le_of_ble_eq_true rfl)) dX4_tryLetter_93 ⟨Nat.le_of_ble_eq_true rfl, Nat.le_of_ble_eq_true rfl⟩) hS (fun H locs hP hD hS => ?_)
              have hP : va_P D vwCl (zWT cI cJ h (n, L) ((zkt kt x), (zkm false km x), (zkl false kl x time)) ((zkt pt (26 * y9 + x)), (zkm false pm (26 * y9 + x)), (zkl false pl (26 * y9 + x) time)) (nu, le, ow, fo, false, wc, lc, (tr + 1), cl, tm, 0) (yl, yc, yt, co, pa, su, sc) mc ++ R) _ := hP
              have hD : va_D (zAb B) (zWT cI cJ h (n, L) ((zkt kt x), (zkm false km x), (zkl false kl x time)) ((zkt pt (26 * y9 + x)), (zkm false pm (26 * y9 + x)), (zkl false pl (26 * y9 + x) time)) (nu, le, ow, fo, false, wc, lc, (tr + 1), cl, tm, 0) (yl, yc, yt, co, pa, su, sc) mc ++ R) := hD
              refine lv_aload_n hx hb dX4_tryLetter_96 rfl (lv_at hl 3 rfl) ?_
              refine va_get (ci := 4) (v := .ref (h 16)) (C := RX4) (T := TX4) (N := 6) hx hb hts hinX4 hown hK hP 0 rfl rfl 4 (by decide) (hts (.fieldLink RX4 38 "TypingTutor" "past" "LTypingTutor$History;") (List.mem_of_getElem? (i := 4) rfl)) (fun _ h9 => h9) rfl dX4_tryLetter_97 ?_
              refine lv_aload_n hx hb dX4_tryLetter_100 rfl (lv_at hl 3 rfl) ?_
              refine va_get (ci := 4) (v := .ref (h 11)) (C := RX4) (T := TX4) (N := 6) hx hb hts hinX4 hown hK hP 0 rfl rfl 3 (by decide) (hts (.fieldLink RX4 31 "TypingTutor" "current" "LTypingTutor$Lesson;") (List.mem_of_getElem? (i := 1) rfl)) (fun _ h9 => h9) rfl dX4_tryLetter_101 ?_
              refine zci (zrV (As := []) (rest := [.ref (h 16)]) ⟨hx, hb, hml, hown, hts⟩ (zV 11 hP hD hK hE hB hS rfl rfl) (c_X2_letterTotal  ) (cwV 0 hts gX4_tryLetter_X2_letterTotal rfl rfl rfl hdv_X2_letterTotal ⟨Nat.le_of_ble_eq_true rfl, Nat.le_of_ble_eq_true rfl⟩) rfl rfl hl.1 rfl (lv_room (Nat.le_of_ble_eq_true rfl)) dX4_tryLetter_104 ⟨Nat.le_of_ble_eq_true rfl, Nat.le_of_ble_eq_true rfl⟩) hS (fun H locs hP hD hS => ?_)
              have hP : va_P D vwCl (zWT cI cJ h (n, L) ((zkt kt x), (zkm false km x), (zkl false kl x time)) ((zkt pt (26 * y9 + x)), (zkm false pm (26 * y9 + x)), (zkl false pl (26 * y9 + x) time)) (nu, le, ow, fo, false, wc, lc, (tr + 1), cl, tm, 0) (yl, yc, yt, co, pa, su, sc) mc ++ R) _ := hP
              have hD : va_D (zAb B) (zWT cI cJ h (n, L) ((zkt kt x), (zkm false km x), (zkl false kl x time)) ((zkt pt (26 * y9 + x)), (zkm false pm (26 * y9 + x)), (zkl false pl (26 * y9 + x) time)) (nu, le, ow, fo, false, wc, lc, (tr + 1), cl, tm, 0) (yl, yc, yt, co, pa, su, sc) mc ++ R) := hD
              refine lv_aload_n hx hb dX4_tryLetter_107 rfl (lv_at hl 3 rfl) ?_
              refine va_get (ci := 4) (v := .ref (h 11)) (C := RX4) (T := TX4) (N := 6) hx hb hts hinX4 hown hK hP 0 rfl rfl 3 (by decide) (hts (.fieldLink RX4 31 "TypingTutor" "current" "LTypingTutor$Lesson;") (List.mem_of_getElem? (i := 1) rfl)) (fun _ h9 => h9) rfl dX4_tryLetter_108 ?_
              refine zci (zrV (As := []) (rest := [.int (nI lc), .ref (h 16)]) ⟨hx, hb, hml, hown, hts⟩ (zV 11 hP hD hK hE hB hS rfl rfl) (c_X2_cleanTotal  ) (cwV 0 hts gX4_tryLetter_X2_cleanTotal rfl rfl rfl hdv_X2_cleanTotal ⟨Nat.le_of_ble_eq_true rfl, Nat.le_of_ble_eq_true rfl⟩) rfl rfl hl.1 rfl (lv_room (Nat.le_of_ble_eq_true rfl)) dX4_tryLetter_111 ⟨Nat.le_of_ble_eq_true rfl, Nat.le_of_ble_eq_true rfl⟩) hS (fun H locs hP hD hS => ?_)
              have hP : va_P D vwCl (zWT cI cJ h (n, L) ((zkt kt x), (zkm false km x), (zkl false kl x time)) ((zkt pt (26 * y9 + x)), (zkm false pm (26 * y9 + x)), (zkl false pl (26 * y9 + x) time)) (nu, le, ow, fo, false, wc, lc, (tr + 1), cl, tm, 0) (yl, yc, yt, co, pa, su, sc) mc ++ R) _ := hP
              have hD : va_D (zAb B) (zWT cI cJ h (n, L) ((zkt kt x), (zkm false km x), (zkl false kl x time)) ((zkt pt (26 * y9 + x)), (zkm false pm (26 * y9 + x)), (zkl false pl (26 * y9 + x) time)) (nu, le, ow, fo, false, wc, lc, (tr + 1), cl, tm, 0) (yl, yc, yt, co, pa, su, sc) mc ++ R) := hD
              refine lv_aload_n hx hb dX4_tryLetter_114 rfl (lv_at hl 3 rfl) ?_
              refine va_get (ci := 4) (v := .ref (h 11)) (C := RX4) (T := TX4) (N := 6) hx hb hts hinX4 hown hK hP 0 rfl rfl 3 (by decide) (hts (.fieldLink RX4 31 "TypingTutor" "current" "LTypingTutor$Lesson;") (List.mem_of_getElem? (i := 1) rfl)) (fun _ h9 => h9) rfl dX4_tryLetter_115 ?_
              refine zci (zrV (As := []) (rest := [.int (nI cl), .int (nI lc), .ref (h 16)]) ⟨hx, hb, hml, hown, hts⟩ (zV 11 hP hD hK hE hB hS rfl rfl) (c_X2_timeSum  ) (cwV 0 hts gX4_tryLetter_X2_timeSum rfl rfl rfl hdv_X2_timeSum ⟨Nat.le_of_ble_eq_true rfl, Nat.le_of_ble_eq_true rfl⟩) rfl rfl hl.1 rfl (lv_room (Nat.le_of_ble_eq_true rfl)) dX4_tryLetter_118 ⟨Nat.le_of_ble_eq_true rfl, Nat.le_of_ble_eq_true rfl⟩) hS (fun H locs hP hD hS => ?_)
              have hP : va_P D vwCl (zWT cI cJ h (n, L) ((zkt kt x), (zkm false km x), (zkl false kl x time)) ((zkt pt (26 * y9 + x)), (zkm false pm (26 * y9 + x)), (zkl false pl (26 * y9 + x) time)) (nu, le, ow, fo, false, wc, lc, (tr + 1), cl, tm, 0) (yl, yc, yt, co, pa, su, sc) mc ++ R) _ := hP
              have hD : va_D (zAb B) (zWT cI cJ h (n, L) ((zkt kt x), (zkm false km x), (zkl false kl x time)) ((zkt pt (26 * y9 + x)), (zkm false pm (26 * y9 + x)), (zkl false pl (26 * y9 + x) time)) (nu, le, ow, fo, false, wc, lc, (tr + 1), cl, tm, 0) (yl, yc, yt, co, pa, su, sc) mc ++ R) := hD
              refine zcv (zrV (As := [.int (nI lc), .int (nI cl), .int (nI tm)]) (rest := []) ⟨hx, hb, hml, hown, hts⟩ (zV 16 hP hD hK hE hB hS rfl rfl) (c_X0_keep (lt := lc) (ct := cl) (ts := tm) (by omega) (by omega) (by omega)) (cwV 3 hts gX4_tryLetter_X0_keep rfl rfl rfl hdv_X0_keep ⟨Nat.le_of_ble_eq_true rfl, Nat.le_of_ble_eq_true rfl⟩) rfl rfl hl.1 rfl (lv_room (Nat.le_of_ble_eq_true rfl)) dX4_tryLetter_121 ⟨Nat.le_of_ble_eq_true rfl, Nat.le_of_ble_eq_true rfl⟩) hS (fun H locs hP hD hS => ?_)
              have hP : va_P D vwCl (zWT cI cJ h (n, L) ((zkt kt x), (zkm false km x), (zkl false kl x time)) ((zkt pt (26 * y9 + x)), (zkm false pm (26 * y9 + x)), (zkl false pl (26 * y9 + x) time)) (nu, le, ow, fo, false, wc, lc, (tr + 1), cl, tm, 0) ((upd yl co (nI lc)), (upd yc co (nI cl)), (upd yt co (nI tm)), (co + 1), (zpc pa lc cl), (su + lc), (sc + cl)) mc ++ R) _ := hP
              have hD : va_D (zAb B) (zWT cI cJ h (n, L) ((zkt kt x), (zkm false km x), (zkl false kl x time)) ((zkt pt (26 * y9 + x)), (zkm false pm (26 * y9 + x)), (zkl false pl (26 * y9 + x) time)) (nu, le, ow, fo, false, wc, lc, (tr + 1), cl, tm, 0) ((upd yl co (nI lc)), (upd yc co (nI cl)), (upd yt co (nI tm)), (co + 1), (zpc pa lc cl), (su + lc), (sc + cl)) mc ++ R) := hD
              exact W.vret hx hb hr (fun t ht hW => ⟨⟨(), rfl, trivial, by rw [ht]; exact hP, hD⟩, hS.F ht⟩) hS.2.2 dX4_tryLetter_124
        · skip
          have c_28 : (ms9 + 1) = 0 := (nI_eq (a := (ms9 + 1)) (b := 0) (by omega) (by omega)).mp c_28
          refine lv_iconst (v := 1) hx hb dX4_tryLetter_10 (by decide) ?_
          refine lv_goto (tgt := 15) hx hb dX4_tryLetter_11 (by decide) ?_
          refine lv_istore_n (lv' := [(2, .int 1), (0, .ref (h 0)), (1, .int time)]) hx hb dX4_tryLetter_15 rfl hl (by decide) rfl (fun ls hl => ?_)
          refine lv_aload_n hx hb dX4_tryLetter_16 rfl (lv_at hl 1 rfl) ?_
          refine va_get (ci := 4) (v := .ref (h 11)) (C := RX4) (T := TX4) (N := 6) hx hb hts hinX4 hown hK hP 0 rfl rfl 3 (by decide) (hts (.fieldLink RX4 31 "TypingTutor" "current" "LTypingTutor$Lesson;") (List.mem_of_getElem? (i := 1) rfl)) (fun _ h9 => h9) rfl dX4_tryLetter_17 ?_
          refine zci (zrV (As := []) (rest := []) ⟨hx, hb, hml, hown, hts⟩ (zV 11 hP hD hK hE hB hS rfl rfl) (c_X2_letterHere  (by omega)) (cwV 0 hts gX4_tryLetter_X2_letterHere rfl rfl rfl hdv_X2_letterHere ⟨Nat.le_of_ble_eq_true rfl, Nat.le_of_ble_eq_true rfl⟩) rfl rfl hl.1 rfl (lv_room (Nat.le_of_ble_eq_true rfl)) dX4_tryLetter_20 ⟨Nat.le_of_ble_eq_true rfl, Nat.le_of_ble_eq_true rfl⟩) hS (fun H locs hP hD hS => ?_)
          have hP : va_P D vwCl (zWT cI cJ h (n, L) (kt, km, kl) (pt, pm, pl) (nu, le, ow, fo, run, wc, lc, tr, cl, tm, (ms9 + 1)) (yl, yc, yt, co, pa, su, sc) mc ++ R) _ := hP
          have hD : va_D (zAb B) (zWT cI cJ h (n, L) (kt, km, kl) (pt, pm, pl) (nu, le, ow, fo, run, wc, lc, tr, cl, tm, (ms9 + 1)) (yl, yc, yt, co, pa, su, sc) mc ++ R) := hD
          rw [show (le tr) = (nI x) from hx9]
          refine lv_istore_n (lv' := [(3, .int (nI x)), (2, .int 1), (0, .ref (h 0)), (1, .int time)]) hx hb dX4_tryLetter_23 rfl hl (by decide) rfl (fun ls hl => ?_)
          refine lv_aload_n hx hb dX4_tryLetter_24 rfl (lv_at hl 2 rfl) ?_
          refine va_get (ci := 4) (v := .ref (h 11)) (C := RX4) (T := TX4) (N := 6) hx hb hts hinX4 hown hK hP 0 rfl rfl 3 (by decide) (hts (.fieldLink RX4 31 "TypingTutor" "current" "LTypingTutor$Lesson;") (List.mem_of_getElem? (i := 1) rfl)) (fun _ h9 => h9) rfl dX4_tryLetter_25 ?_
          refine zci (zrV (As := []) (rest := []) ⟨hx, hb, hml, hown, hts⟩ (zV 11 hP hD hK hE hB hS rfl rfl) (c_X2_letterBefore  (by omega) (by omega)) (cwV 0 hts gX4_tryLetter_X2_letterBefore rfl rfl rfl hdv_X2_letterBefore ⟨Nat.le_of_ble_eq_true rfl, Nat.le_of_ble_eq_true rfl⟩) rfl rfl hl.1 rfl (lv_room (Nat.le_of_ble_eq_true rfl)) dX4_tryLetter_28 ⟨Nat.le_of_ble_eq_true rfl, Nat.le_of_ble_eq_true rfl⟩) hS (fun H locs hP hD hS => ?_)
          have hP : va_P D vwCl (zWT cI cJ h (n, L) (kt, km, kl) (pt, pm, pl) (nu, le, ow, fo, run, wc, lc, tr, cl, tm, (ms9 + 1)) (yl, yc, yt, co, pa, su, sc) mc ++ R) _ := hP
          have hD : va_D (zAb B) (zWT cI cJ h (n, L) (kt, km, kl) (pt, pm, pl) (nu, le, ow, fo, run, wc, lc, tr, cl, tm, (ms9 + 1)) (yl, yc, yt, co, pa, su, sc) mc ++ R) := hD
          rw [show (zis le ow lc tr (nI tr - 1)) = (nI y9) from ho]
          refine lv_istore (lv' := [(4, .int (nI y9)), (3, .int (nI x)), (2, .int 1), (0, .ref (h 0)), (1, .int time)]) hx hb dX4_tryLetter_31 hl (by decide) rfl (fun ls hl => ?_)
          refine lv_aload_n hx hb dX4_tryLetter_33 rfl (lv_at hl 3 rfl) ?_
          refine va_get (ci := 4) (v := .ref (h 3)) (C := RX4) (T := TX4) (N := 6) hx hb hts hinX4 hown hK hP 0 rfl rfl 1 (by decide) (hts (.fieldLink RX4 21 "TypingTutor" "keys" "LTypingTutor$Knowledge;") (List.mem_of_getElem? (i := 2) rfl)) (fun _ h9 => h9) rfl dX4_tryLetter_34 ?_
          refine lv_iload_n hx hb dX4_tryLetter_37 rfl (lv_at hl 1 rfl) ?_
          refine lv_iload_n hx hb dX4_tryLetter_38 rfl (lv_at hl 2 rfl) ?_
          refine lv_iload_n hx hb dX4_tryLetter_39 rfl (lv_at hl 4 rfl) ?_
          refine zcv (zrV (As := [.int (nI x), .int 1, .int time]) (rest := []) ⟨hx, hb, hml, hown, hts⟩ (zV 3 hP hD hK hE hB hS rfl rfl) (c_X1_learn_k (k := x) (b := true) (by omega)) (cwV 3 hts gX4_tryLetter_X1_learn rfl rfl rfl hdv_X1_learn ⟨Nat.le_of_ble_eq_true rfl, Nat.le_of_ble_eq_true rfl⟩) rfl rfl hl.1 rfl (lv_room (Nat.le_of_ble_eq_true rfl)) dX4_tryLetter_40 ⟨Nat.le_of_ble_eq_true rfl, Nat.le_of_ble_eq_true rfl⟩) hS (fun H locs hP hD hS => ?_)
          have hP : va_P D vwCl (zWT cI cJ h (n, L) ((zkt kt x), (zkm true km x), (zkl true kl x time)) (pt, pm, pl) (nu, le, ow, fo, run, wc, lc, tr, cl, tm, (ms9 + 1)) (yl, yc, yt, co, pa, su, sc) mc ++ R) _ := hP
          have hD : va_D (zAb B) (zWT cI cJ h (n, L) ((zkt kt x), (zkm true km x), (zkl true kl x time)) (pt, pm, pl) (nu, le, ow, fo, run, wc, lc, tr, cl, tm, (ms9 + 1)) (yl, yc, yt, co, pa, su, sc) mc ++ R) := hD
          refine lv_iload hx hb dX4_tryLetter_43 (lv_at hl 0 rfl) ?_
          refine lv_iconst (v := (-1)) hx hb dX4_tryLetter_45 (by decide) ?_
          refine lv_icmp_eq (tgt := 64) hx hb dX4_tryLetter_46 (by decide) (fun c_31 => ?_) (fun c_31 => ?_)
          · skip
            exact absurd c_31 (nI_m1 (by omega))
          · skip
            refine lv_aload_n hx hb dX4_tryLetter_49 rfl (lv_at hl 3 rfl) ?_
            refine va_get (ci := 4) (v := .ref (h 7)) (C := RX4) (T := TX4) (N := 6) hx hb hts hinX4 hown hK hP 0 rfl rfl 2 (by decide) (hts (.fieldLink RX4 25 "TypingTutor" "pairs" "LTypingTutor$Knowledge;") (List.mem_of_getElem? (i := 3) rfl)) (fun _ h9 => h9) rfl dX4_tryLetter_50 ?_
            refine lv_iload hx hb dX4_tryLetter_53 (lv_at hl 0 rfl) ?_
            refine lv_iload_n hx hb dX4_tryLetter_55 rfl (lv_at hl 1 rfl) ?_
            refine zci (zrS (As := [.int (nI y9), .int (nI x)]) (rest := [.ref (h 7)]) ⟨hx, hb, hml, hown, hts⟩ (zS hP hD hK hE hB hS) (c_X4_pairOf  ) (va_cwS 2 hts gX4_tryLetter_X4_pairOf rfl rfl rfl hds_X4_pairOf ⟨Nat.le_of_ble_eq_true rfl, Nat.le_of_ble_eq_true rfl⟩) rfl rfl hl.1 rfl (lv_room (Nat.le_of_ble_eq_true rfl)) dX4_tryLetter_56 ⟨Nat.le_of_ble_eq_true rfl, Nat.le_of_ble_eq_true rfl⟩) hS (fun H locs hP hD hS => ?_)
            have hP : va_P D vwCl (zWT cI cJ h (n, L) ((zkt kt x), (zkm true km x), (zkl true kl x time)) (pt, pm, pl) (nu, le, ow, fo, run, wc, lc, tr, cl, tm, (ms9 + 1)) (yl, yc, yt, co, pa, su, sc) mc ++ R) _ := hP
            have hD : va_D (zAb B) (zWT cI cJ h (n, L) ((zkt kt x), (zkm true km x), (zkl true kl x time)) (pt, pm, pl) (nu, le, ow, fo, run, wc, lc, tr, cl, tm, (ms9 + 1)) (yl, yc, yt, co, pa, su, sc) mc ++ R) := hD
            rw [show (26 * (nI y9) + (nI x)) = (nI (26 * y9 + x)) from (by rw [show (26 : Int32) = nI 26 from rfl, pk_mul, nI_add])]
            refine lv_iload_n hx hb dX4_tryLetter_59 rfl (lv_at hl 2 rfl) ?_
            refine lv_iload_n hx hb dX4_tryLetter_60 rfl (lv_at hl 4 rfl) ?_
            refine zcv (zrV (As := [.int (nI (26 * y9 + x)), .int 1, .int time]) (rest := []) ⟨hx, hb, hml, hown, hts⟩ (zV 7 hP hD hK hE hB hS rfl rfl) (c_X1_learn_p (k := (26 * y9 + x)) (b := true) (by omega)) (cwV 3 hts gX4_tryLetter_X1_learn rfl rfl rfl hdv_X1_learn ⟨Nat.le_of_ble_eq_true rfl, Nat.le_of_ble_eq_true rfl⟩) rfl rfl hl.1 rfl (lv_room (Nat.le_of_ble_eq_true rfl)) dX4_tryLetter_61 ⟨Nat.le_of_ble_eq_true rfl, Nat.le_of_ble_eq_true rfl⟩) hS (fun H locs hP hD hS => ?_)
            have hP : va_P D vwCl (zWT cI cJ h (n, L) ((zkt kt x), (zkm true km x), (zkl true kl x time)) ((zkt pt (26 * y9 + x)), (zkm true pm (26 * y9 + x)), (zkl true pl (26 * y9 + x) time)) (nu, le, ow, fo, run, wc, lc, tr, cl, tm, (ms9 + 1)) (yl, yc, yt, co, pa, su, sc) mc ++ R) _ := hP
            have hD : va_D (zAb B) (zWT cI cJ h (n, L) ((zkt kt x), (zkm true km x), (zkl true kl x time)) ((zkt pt (26 * y9 + x)), (zkm true pm (26 * y9 + x)), (zkl true pl (26 * y9 + x) time)) (nu, le, ow, fo, run, wc, lc, tr, cl, tm, (ms9 + 1)) (yl, yc, yt, co, pa, su, sc) mc ++ R) := hD
            refine lv_aload_n hx hb dX4_tryLetter_64 rfl (lv_at hl 3 rfl) ?_
            refine va_get (ci := 4) (v := .ref (h 11)) (C := RX4) (T := TX4) (N := 6) hx hb hts hinX4 hown hK hP 0 rfl rfl 3 (by decide) (hts (.fieldLink RX4 31 "TypingTutor" "current" "LTypingTutor$Lesson;") (List.mem_of_getElem? (i := 1) rfl)) (fun _ h9 => h9) rfl dX4_tryLetter_65 ?_
            refine lv_iload_n hx hb dX4_tryLetter_68 rfl (lv_at hl 2 rfl) ?_
            refine zcv (zrV (As := [.int 1]) (rest := []) ⟨hx, hb, hml, hown, hts⟩ (zV 11 hP hD hK hE hB hS rfl rfl) (c_X2_goOn_1  ) (cwV 1 hts gX4_tryLetter_X2_goOn rfl rfl rfl hdv_X2_goOn ⟨Nat.le_of_ble_eq_true rfl, Nat.le_of_ble_eq_true rfl⟩) rfl rfl hl.1 rfl (lv_room (Nat.le_of_ble_eq_true rfl)) dX4_tryLetter_69 ⟨Nat.le_of_ble_eq_true rfl, Nat.le_of_ble_eq_true rfl⟩) hS (fun H locs hP hD hS => ?_)
            have hP : va_P D vwCl (zWT cI cJ h (n, L) ((zkt kt x), (zkm true km x), (zkl true kl x time)) ((zkt pt (26 * y9 + x)), (zkm true pm (26 * y9 + x)), (zkl true pl (26 * y9 + x) time)) (nu, le, ow, fo, run, wc, lc, (tr + 1), (cl + 1), tm, 0) (yl, yc, yt, co, pa, su, sc) mc ++ R) _ := hP
            have hD : va_D (zAb B) (zWT cI cJ h (n, L) ((zkt kt x), (zkm true km x), (zkl true kl x time)) ((zkt pt (26 * y9 + x)), (zkm true pm (26 * y9 + x)), (zkl true pl (26 * y9 + x) time)) (nu, le, ow, fo, run, wc, lc, (tr + 1), (cl + 1), tm, 0) (yl, yc, yt, co, pa, su, sc) mc ++ R) := hD
            refine lv_aload_n hx hb dX4_tryLetter_72 rfl (lv_at hl 3 rfl) ?_
            refine va_get (ci := 4) (v := .ref (h 11)) (C := RX4) (T := TX4) (N := 6) hx hb hts hinX4 hown hK hP 0 rfl rfl 3 (by decide) (hts (.fieldLink RX4 31 "TypingTutor" "current" "LTypingTutor$Lesson;") (List.mem_of_getElem? (i := 1) rfl)) (fun _ h9 => h9) rfl dX4_tryLetter_73 ?_
            refine zci (zrV (As := []) (rest := []) ⟨hx, hb, hml, hown, hts⟩ (zV 11 hP hD hK hE hB hS rfl rfl) (c_X2_triedTotal  ) (cwV 0 hts gX4_tryLetter_X2_triedTotal rfl rfl rfl hdv_X2_triedTotal ⟨Nat.le_of_ble_eq_true rfl, Nat.le_of_ble_eq_true rfl⟩) rfl rfl hl.1 rfl (lv_room (Nat.le_of_ble_eq_true rfl)) dX4_tryLetter_76 ⟨Nat.le_of_ble_eq_true rfl, Nat.le_of_ble_eq_true rfl⟩) hS (fun H locs hP hD hS => ?_)
            have hP : va_P D vwCl (zWT cI cJ h (n, L) ((zkt kt x), (zkm true km x), (zkl true kl x time)) ((zkt pt (26 * y9 + x)), (zkm true pm (26 * y9 + x)), (zkl true pl (26 * y9 + x) time)) (nu, le, ow, fo, run, wc, lc, (tr + 1), (cl + 1), tm, 0) (yl, yc, yt, co, pa, su, sc) mc ++ R) _ := hP
            have hD : va_D (zAb B) (zWT cI cJ h (n, L) ((zkt kt x), (zkm true km x), (zkl true kl x time)) ((zkt pt (26 * y9 + x)), (zkm true pm (26 * y9 + x)), (zkl true pl (26 * y9 + x) time)) (nu, le, ow, fo, run, wc, lc, (tr + 1), (cl + 1), tm, 0) (yl, yc, yt, co, pa, su, sc) mc ++ R) := hD
            refine lv_aload_n hx hb dX4_tryLetter_79 rfl (lv_at hl 3 rfl) ?_
            refine va_get (ci := 4) (v := .ref (h 11)) (C := RX4) (T := TX4) (N := 6) hx hb hts hinX4 hown hK hP 0 rfl rfl 3 (by decide) (hts (.fieldLink RX4 31 "TypingTutor" "current" "LTypingTutor$Lesson;") (List.mem_of_getElem? (i := 1) rfl)) (fun _ h9 => h9) rfl dX4_tryLetter_80 ?_
            refine zci (zrV (As := []) (rest := [.int (nI (tr + 1))]) ⟨hx, hb, hml, hown, hts⟩ (zV 11 hP hD hK hE hB hS rfl rfl) (c_X2_letterTotal  ) (cwV 0 hts gX4_tryLetter_X2_letterTotal rfl rfl rfl hdv_X2_letterTotal ⟨Nat.le_of_ble_eq_true rfl, Nat.le_of_ble_eq_true rfl⟩) rfl rfl hl.1 rfl (lv_room (Nat.le_of_ble_eq_true rfl)) dX4_tryLetter_83 ⟨Nat.le_of_ble_eq_true rfl, Nat.le_of_ble_eq_true rfl⟩) hS (fun H locs hP hD hS => ?_)
            have hP : va_P D vwCl (zWT cI cJ h (n, L) ((zkt kt x), (zkm true km x), (zkl true kl x time)) ((zkt pt (26 * y9 + x)), (zkm true pm (26 * y9 + x)), (zkl true pl (26 * y9 + x) time)) (nu, le, ow, fo, run, wc, lc, (tr + 1), (cl + 1), tm, 0) (yl, yc, yt, co, pa, su, sc) mc ++ R) _ := hP
            have hD : va_D (zAb B) (zWT cI cJ h (n, L) ((zkt kt x), (zkm true km x), (zkl true kl x time)) ((zkt pt (26 * y9 + x)), (zkm true pm (26 * y9 + x)), (zkl true pl (26 * y9 + x) time)) (nu, le, ow, fo, run, wc, lc, (tr + 1), (cl + 1), tm, 0) (yl, yc, yt, co, pa, su, sc) mc ++ R) := hD
            refine lv_icmp_lt (tgt := 124) hx hb dX4_tryLetter_86 (by decide) (fun c_32 => ?_) (fun c_32 => ?_)
            · skip
              have c_32 : (tr + 1) < lc := (nI_ltI (a := (tr + 1)) (b := lc) (by omega) (by omega)).mp c_32
              exact W.vret hx hb hr (fun t ht hW => ⟨⟨(), rfl, trivial, by rw [ht]; exact hP, hD⟩, hS.F ht⟩) hS.2.2 dX4_tryLetter_124
            · skip
              have c_32 : ¬ (tr + 1) < lc := fun hh => c_32 ((nI_ltI (a := (tr + 1)) (b := lc) (by omega) (by omega)).mpr hh)
              refine lv_aload_n hx hb dX4_tryLetter_89 rfl (lv_at hl 3 rfl) ?_
              refine va_get (ci := 4) (v := .ref (h 11)) (C := RX4) (T := TX4) (N := 6) hx hb hts hinX4 hown hK hP 0 rfl rfl 3 (by decide) (hts (.fieldLink RX4 31 "TypingTutor" "current" "LTypingTutor$Lesson;") (List.mem_of_getElem? (i := 1) rfl)) (fun _ h9 => h9) rfl dX4_tryLetter_90 ?_
              refine zcv (zrV (As := []) (rest := []) ⟨hx, hb, hml, hown, hts⟩ (zV 11 hP hD hK hE hB hS rfl rfl) (c_X2_stop  ) (cwV 0 hts gX4_tryLetter_X2_stop rfl rfl rfl hdv_X2_stop ⟨Nat.le_of_ble_eq_true rfl, Nat.le_of_ble_eq_true rfl⟩) rfl rfl hl.1 rfl (lv_room (Nat.le_of_ble_eq_true rfl)) dX4_tryLetter_93 ⟨Nat.le_of_ble_eq_true rfl, Nat.le_of_ble_eq_true rfl⟩) hS (fun H locs hP hD hS => ?_)
              have hP : va_P D vwCl (zWT cI cJ h (n, L) ((zkt kt x), (zkm true km x), (zkl true kl x time)) ((zkt pt (26 * y9 + x)), (zkm true pm (26 * y9 + x)), (zkl true pl (26 * y9 + x) time)) (nu, le, ow, fo, false, wc, lc, (tr + 1), (cl + 1), tm, 0) (yl, yc, yt, co, pa, su, sc) mc ++ R) _ := hP
              have hD : va_D (zAb B) (zWT cI cJ h (n, L) ((zkt kt x), (zkm true km x), (zkl true kl x time)) ((zkt pt (26 * y9 + x)), (zkm true pm (26 * y9 + x)), (zkl true pl (26 * y9 + x) time)) (nu, le, ow, fo, false, wc, lc, (tr + 1), (cl + 1), tm, 0) (yl, yc, yt, co, pa, su, sc) mc ++ R) := hD
              refine lv_aload_n hx hb dX4_tryLetter_96 rfl (lv_at hl 3 rfl) ?_
              refine va_get (ci := 4) (v := .ref (h 16)) (C := RX4) (T := TX4) (N := 6) hx hb hts hinX4 hown hK hP 0 rfl rfl 4 (by decide) (hts (.fieldLink RX4 38 "TypingTutor" "past" "LTypingTutor$History;") (List.mem_of_getElem? (i := 4) rfl)) (fun _ h9 => h9) rfl dX4_tryLetter_97 ?_
              refine lv_aload_n hx hb dX4_tryLetter_100 rfl (lv_at hl 3 rfl) ?_
              refine va_get (ci := 4) (v := .ref (h 11)) (C := RX4) (T := TX4) (N := 6) hx hb hts hinX4 hown hK hP 0 rfl rfl 3 (by decide) (hts (.fieldLink RX4 31 "TypingTutor" "current" "LTypingTutor$Lesson;") (List.mem_of_getElem? (i := 1) rfl)) (fun _ h9 => h9) rfl dX4_tryLetter_101 ?_
              refine zci (zrV (As := []) (rest := [.ref (h 16)]) ⟨hx, hb, hml, hown, hts⟩ (zV 11 hP hD hK hE hB hS rfl rfl) (c_X2_letterTotal  ) (cwV 0 hts gX4_tryLetter_X2_letterTotal rfl rfl rfl hdv_X2_letterTotal ⟨Nat.le_of_ble_eq_true rfl, Nat.le_of_ble_eq_true rfl⟩) rfl rfl hl.1 rfl (lv_room (Nat.le_of_ble_eq_true rfl)) dX4_tryLetter_104 ⟨Nat.le_of_ble_eq_true rfl, Nat.le_of_ble_eq_true rfl⟩) hS (fun H locs hP hD hS => ?_)
              have hP : va_P D vwCl (zWT cI cJ h (n, L) ((zkt kt x), (zkm true km x), (zkl true kl x time)) ((zkt pt (26 * y9 + x)), (zkm true pm (26 * y9 + x)), (zkl true pl (26 * y9 + x) time)) (nu, le, ow, fo, false, wc, lc, (tr + 1), (cl + 1), tm, 0) (yl, yc, yt, co, pa, su, sc) mc ++ R) _ := hP
              have hD : va_D (zAb B) (zWT cI cJ h (n, L) ((zkt kt x), (zkm true km x), (zkl true kl x time)) ((zkt pt (26 * y9 + x)), (zkm true pm (26 * y9 + x)), (zkl true pl (26 * y9 + x) time)) (nu, le, ow, fo, false, wc, lc, (tr + 1), (cl + 1), tm, 0) (yl, yc, yt, co, pa, su, sc) mc ++ R) := hD
              refine lv_aload_n hx hb dX4_tryLetter_107 rfl (lv_at hl 3 rfl) ?_
              refine va_get (ci := 4) (v := .ref (h 11)) (C := RX4) (T := TX4) (N := 6) hx hb hts hinX4 hown hK hP 0 rfl rfl 3 (by decide) (hts (.fieldLink RX4 31 "TypingTutor" "current" "LTypingTutor$Lesson;") (List.mem_of_getElem? (i := 1) rfl)) (fun _ h9 => h9) rfl dX4_tryLetter_108 ?_
              refine zci (zrV (As := []) (rest := [.int (nI lc), .ref (h 16)]) ⟨hx, hb, hml, hown, hts⟩ (zV 11 hP hD hK hE hB hS rfl rfl) (c_X2_cleanTotal  ) (cwV 0 hts gX4_tryLetter_X2_cleanTotal rfl rfl rfl hdv_X2_cleanTotal ⟨Nat.le_of_ble_eq_true rfl, Nat.le_of_ble_eq_true rfl⟩) rfl rfl hl.1 rfl (lv_room (Nat.le_of_ble_eq_true rfl)) dX4_tryLetter_111 ⟨Nat.le_of_ble_eq_true rfl, Nat.le_of_ble_eq_true rfl⟩) hS (fun H locs hP hD hS => ?_)
              have hP : va_P D vwCl (zWT cI cJ h (n, L) ((zkt kt x), (zkm true km x), (zkl true kl x time)) ((zkt pt (26 * y9 + x)), (zkm true pm (26 * y9 + x)), (zkl true pl (26 * y9 + x) time)) (nu, le, ow, fo, false, wc, lc, (tr + 1), (cl + 1), tm, 0) (yl, yc, yt, co, pa, su, sc) mc ++ R) _ := hP
              have hD : va_D (zAb B) (zWT cI cJ h (n, L) ((zkt kt x), (zkm true km x), (zkl true kl x time)) ((zkt pt (26 * y9 + x)), (zkm true pm (26 * y9 + x)), (zkl true pl (26 * y9 + x) time)) (nu, le, ow, fo, false, wc, lc, (tr + 1), (cl + 1), tm, 0) (yl, yc, yt, co, pa, su, sc) mc ++ R) := hD
              refine lv_aload_n hx hb dX4_tryLetter_114 rfl (lv_at hl 3 rfl) ?_
              refine va_get (ci := 4) (v := .ref (h 11)) (C := RX4) (T := TX4) (N := 6) hx hb hts hinX4 hown hK hP 0 rfl rfl 3 (by decide) (hts (.fieldLink RX4 31 "TypingTutor" "current" "LTypingTutor$Lesson;") (List.mem_of_getElem? (i := 1) rfl)) (fun _ h9 => h9) rfl dX4_tryLetter_115 ?_
              refine zci (zrV (As := []) (rest := [.int (nI (cl + 1)), .int (nI lc), .ref (h 16)]) ⟨hx, hb, hml, hown, hts⟩ (zV 11 hP hD hK hE hB hS rfl rfl) (c_X2_timeSum  ) (cwV 0 hts gX4_tryLetter_X2_timeSum rfl rfl rfl hdv_X2_timeSum ⟨Nat.le_of_ble_eq_true rfl, Nat.le_of_ble_eq_true rfl⟩) rfl rfl hl.1 rfl (lv_room (Nat.le_of_ble_eq_true rfl)) dX4_tryLetter_118 ⟨Nat.le_of_ble_eq_true rfl, Nat.le_of_ble_eq_true rfl⟩) hS (fun H locs hP hD hS => ?_)
              have hP : va_P D vwCl (zWT cI cJ h (n, L) ((zkt kt x), (zkm true km x), (zkl true kl x time)) ((zkt pt (26 * y9 + x)), (zkm true pm (26 * y9 + x)), (zkl true pl (26 * y9 + x) time)) (nu, le, ow, fo, false, wc, lc, (tr + 1), (cl + 1), tm, 0) (yl, yc, yt, co, pa, su, sc) mc ++ R) _ := hP
              have hD : va_D (zAb B) (zWT cI cJ h (n, L) ((zkt kt x), (zkm true km x), (zkl true kl x time)) ((zkt pt (26 * y9 + x)), (zkm true pm (26 * y9 + x)), (zkl true pl (26 * y9 + x) time)) (nu, le, ow, fo, false, wc, lc, (tr + 1), (cl + 1), tm, 0) (yl, yc, yt, co, pa, su, sc) mc ++ R) := hD
              refine zcv (zrV (As := [.int (nI lc), .int (nI (cl + 1)), .int (nI tm)]) (rest := []) ⟨hx, hb, hml, hown, hts⟩ (zV 16 hP hD hK hE hB hS rfl rfl) (c_X0_keep (lt := lc) (ct := (cl + 1)) (ts := tm) (by omega) (by omega) (by omega)) (cwV 3 hts gX4_tryLetter_X0_keep rfl rfl rfl hdv_X0_keep ⟨Nat.le_of_ble_eq_true rfl, Nat.le_of_ble_eq_true rfl⟩) rfl rfl hl.1 rfl (lv_room (Nat.le_of_ble_eq_true rfl)) dX4_tryLetter_121 ⟨Nat.le_of_ble_eq_true rfl, Nat.le_of_ble_eq_true rfl⟩) hS (fun H locs hP hD hS => ?_)
              have hP : va_P D vwCl (zWT cI cJ h (n, L) ((zkt kt x), (zkm true km x), (zkl true kl x time)) ((zkt pt (26 * y9 + x)), (zkm true pm (26 * y9 + x)), (zkl true pl (26 * y9 + x) time)) (nu, le, ow, fo, false, wc, lc, (tr + 1), (cl + 1), tm, 0) ((upd yl co (nI lc)), (upd yc co (nI (cl + 1))), (upd yt co (nI tm)), (co + 1), (zpc pa lc (cl + 1)), (su + lc), (sc + (cl + 1))) mc ++ R) _ := hP
              have hD : va_D (zAb B) (zWT cI cJ h (n, L) ((zkt kt x), (zkm true km x), (zkl true kl x time)) ((zkt pt (26 * y9 + x)), (zkm true pm (26 * y9 + x)), (zkl true pl (26 * y9 + x) time)) (nu, le, ow, fo, false, wc, lc, (tr + 1), (cl + 1), tm, 0) ((upd yl co (nI lc)), (upd yc co (nI (cl + 1))), (upd yt co (nI tm)), (co + 1), (zpc pa lc (cl + 1)), (su + lc), (sc + (cl + 1))) mc ++ R) := hD
              exact W.vret hx hb hr (fun t ht hW => ⟨⟨(), rfl, trivial, by rw [ht]; exact hP, hD⟩, hS.F ht⟩) hS.2.2 dX4_tryLetter_124

set_option maxHeartbeats 4000000 in
set_option maxRecDepth 100000 in
theorem c_X4_strike_r {l : Launch} {B kr kp : Nat} {D : va_G} {cI cJ cZ : ClassId} {h : Nat → Nat} {R : va_W} {n : Nat} {L : Nat → Int64} {kt : Nat → Int32} {km : Nat → Int32} {kl : Nat → Int32} {pt : Nat → Int32} {pm : Nat → Int32} {pl : Nat → Int32} {nu : Nat → Int32} {le : Nat → Int32} {ow : Nat → Int32} {fo : Nat → Int32} {run : Bool} {wc : Nat} {lc : Nat} {tr : Nat} {cl : Nat} {tm : Nat} {ms : Nat} {yl : Nat → Int32} {yc : Nat → Int32} {yt : Nat → Int32} {co : Nat} {pa : Int32} {su : Nat} {sc : Nat} {mc : Nat → Int32} {key : Int32} {time : Nat} {x : Nat} {o : Option Nat} {fin : Bool}  (h1 : ¬ key < 0 ∧ ¬ 26 ≤ key) (ht1 : 1 ≤ time) (ht2 : time ≤ 5000) (hrun : run = true) (hx9 : le tr = nI x) (hx26 : x < 26) (ho : zis le ow lc tr (nI tr - 1) = zoI o) (hoy : ∀ y, o = some y → y < 26) (hf : zsel fin (tr + 1 = lc) (tr + 1 < lc)) (htr : tr < lc) (hlc : lc ≤ 48) (hcl : cl ≤ tr) (hco : co < 256) (hk0 : zkd key le ow lc tr = 0) : Met l yX4_strike wsX4_strike ({ frames := 4, cells := 0, slots := 0, locals := 94 }) (zPc B kr kp D (zTy cI cJ cZ) (zWT cI cJ h (n, L) (kt, km, kl) (pt, pm, pl) (nu, le, ow, fo, run, wc, lc, tr, cl, tm, ms) (yl, yc, yt, co, pa, su, sc) mc ++ R) [.ref (h 0), .int key, .int (nI time)]) (zQi B D (zWT cI cJ h (n, L) ((zkt kt x), (zkm (zc0 ms) km x), (zkl (zc0 ms) kl x (nI time))) ((zou o x pt (zkt pt)), (zou o x pm (zkm (zc0 ms) pm)), (zou o x pl (fun p => zkl (zc0 ms) pl p (nI time)))) (nu, le, ow, fo, (zsel fin false run), wc, lc, (tr + 1), (zsel (zc0 ms) (cl + 1) cl), (tm + time), 0) ((zsel fin (upd yl co (nI lc)) yl), (zsel fin (upd yc co (nI (zsel (zc0 ms) (cl + 1) cl))) yc), (zsel fin (upd yt co (nI (tm + time))) yt), (zsel fin (co + 1) co), (zsel fin (zpc pa lc (zsel (zc0 ms) (cl + 1) cl)) pa), (zsel fin (su + lc) su), (zsel fin (sc + (zsel (zc0 ms) (cl + 1) cl)) sc)) mc ++ R) 0) 0 0 (zAb B) := by
  refine Met.ofW (cc := cX4_strike) (maxL := 4) (ret := (some .int)) (by decide) rfl ?_
  intro p e s m args below meth c s₁ B0 hml hv
  obtain ⟨rfl, hP, hD, hK, hE, hB⟩ := hv
  have hx := B0.exec
  have hb := B0.bytes
  have hr := B0.returns
  have hts := atoms_spec (ws := wsX4_strike) B0.pre
  have hown : s.vm.findClass RX4 = some m.cls := findClass_of_methodNamed B0.named
  have hlocks := B0.notSynchronized
  have hA : ∀ q : Nat, s.heap.size ≤ q → zAb B q := fun q hq => Nat.le_trans hB hq
  have hS : va_S (zAb B) s.heap s.heap [] := va_S.rf
  have hl := lv_entry ([.ref (h 0), .int key, .int (nI time)]) (n := 4) (Nat.le_of_ble_eq_true rfl)
  rw [lg_entry_eq]
  generalize (lg_sl ([.ref (h 0), .int key, .int (nI time)]) ++ List.replicate (4 - (lg_sl ([.ref (h 0), .int key, .int (nI time)])).length) Slot.unset).toArray = ls at hl ⊢
  have hl : lv_has ls 4 [(0, .ref (h 0)), (1, .int key), (2, .int (nI time))] := hl
  have hinX4 : ∀ w ∈ wsX40, w ∈ wsX4_strike := fun _ h => List.mem_cons_of_mem _ (List.mem_append_left _ (List.mem_append_left _ (List.mem_append_left _ (List.mem_append_left _ (List.mem_append_left _ (List.mem_append_left _ (List.mem_append_right _ h)))))))
  have hP : va_P D vwCl (zWT cI cJ h (n, L) (kt, km, kl) (pt, pm, pl) (nu, le, ow, fo, run, wc, lc, tr, cl, tm, ms) (yl, yc, yt, co, pa, su, sc) mc ++ R) s.heap := hP
  have hD : va_D (zAb B) (zWT cI cJ h (n, L) (kt, km, kl) (pt, pm, pl) (nu, le, ow, fo, run, wc, lc, tr, cl, tm, ms) (yl, yc, yt, co, pa, su, sc) mc ++ R) := hD
  refine lv_iload_n hx hb dX4_strike_0 rfl (lv_at hl 1 rfl) ?_
  refine zci (zrS (As := [.int key]) (rest := []) ⟨hx, hb, hml, hown, hts⟩ (zS hP hD hK hE hB hS) (c_X4_isKey  ) (va_cwS 1 hts gX4_strike_X4_isKey rfl rfl rfl hds_X4_isKey ⟨Nat.le_of_ble_eq_true rfl, Nat.le_of_ble_eq_true rfl⟩) rfl rfl hl.1 rfl (lv_room (Nat.le_of_ble_eq_true rfl)) dX4_strike_1 ⟨Nat.le_of_ble_eq_true rfl, Nat.le_of_ble_eq_true rfl⟩) hS (fun H locs hP hD hS => ?_)
  have hP : va_P D vwCl (zWT cI cJ h (n, L) (kt, km, kl) (pt, pm, pl) (nu, le, ow, fo, run, wc, lc, tr, cl, tm, ms) (yl, yc, yt, co, pa, su, sc) mc ++ R) _ := hP
  have hD : va_D (zAb B) (zWT cI cJ h (n, L) (kt, km, kl) (pt, pm, pl) (nu, le, ow, fo, run, wc, lc, tr, cl, tm, ms) (yl, yc, yt, co, pa, su, sc) mc ++ R) := hD
  refine lv_if_ne (tgt := 17) hx hb dX4_strike_4 (by decide) (fun c_1 => ?_) (fun c_1 => ?_)
  · skip
    have c_1 := zq_n c_1
    refine lv_iload_n hx hb dX4_strike_17 rfl (lv_at hl 2 rfl) ?_
    refine lv_iconst (v := 1) hx hb dX4_strike_18 (by decide) ?_
    refine lv_icmp_lt (tgt := 29) hx hb dX4_strike_19 (by decide) (fun c_2 => ?_) (fun c_2 => ?_)
    · skip
      have c_2 : time < 1 := (nI_ltI (a := time) (b := 1) (by omega) (by omega)).mp c_2
      omega
    · skip
      have c_2 : ¬ time < 1 := fun hh => c_2 ((nI_ltI (a := time) (b := 1) (by omega) (by omega)).mpr hh)
      refine lv_iload_n hx hb dX4_strike_22 rfl (lv_at hl 2 rfl) ?_
      refine lv_sipush (v := 5000) hx hb dX4_strike_23 (by decide) ?_
      refine lv_icmp_le (tgt := 39) hx hb dX4_strike_26 (by decide) (fun c_3 => ?_) (fun c_3 => ?_)
      · skip
        have c_3 : time ≤ 5000 := (nI_leI (a := time) (b := 5000) (by omega) (by omega)).mp c_3
        refine lv_aload_n hx hb dX4_strike_39 rfl (lv_at hl 0 rfl) ?_
        refine va_get (ci := 4) (v := .ref (h 11)) (C := RX4) (T := TX4) (N := 6) hx hb hts hinX4 hown hK hP 0 rfl rfl 3 (by decide) (hts (.fieldLink RX4 31 "TypingTutor" "current" "LTypingTutor$Lesson;") (List.mem_of_getElem? (i := 7) rfl)) (fun _ h9 => h9) rfl dX4_strike_40 ?_
        refine zci (zrV (As := []) (rest := []) ⟨hx, hb, hml, hown, hts⟩ (zV 11 hP hD hK hE hB hS rfl rfl) (c_X2_isRunning  ) (cwV 0 hts gX4_strike_X2_isRunning rfl rfl rfl hdv_X2_isRunning ⟨Nat.le_of_ble_eq_true rfl, Nat.le_of_ble_eq_true rfl⟩) rfl rfl hl.1 rfl (lv_room (Nat.le_of_ble_eq_true rfl)) dX4_strike_43 ⟨Nat.le_of_ble_eq_true rfl, Nat.le_of_ble_eq_true rfl⟩) hS (fun H locs hP hD hS => ?_)
        have hP : va_P D vwCl (zWT cI cJ h (n, L) (kt, km, kl) (pt, pm, pl) (nu, le, ow, fo, run, wc, lc, tr, cl, tm, ms) (yl, yc, yt, co, pa, su, sc) mc ++ R) _ := hP
        have hD : va_D (zAb B) (zWT cI cJ h (n, L) (kt, km, kl) (pt, pm, pl) (nu, le, ow, fo, run, wc, lc, tr, cl, tm, ms) (yl, yc, yt, co, pa, su, sc) mc ++ R) := hD
        refine lv_if_ne (tgt := 59) hx hb dX4_strike_46 (by decide) (fun c_4 => ?_) (fun c_4 => ?_)
        · skip
          have c_4 : run = true := zb_n c_4
          refine lv_aload_n hx hb dX4_strike_59 rfl (lv_at hl 0 rfl) ?_
          refine lv_iload_n hx hb dX4_strike_60 rfl (lv_at hl 1 rfl) ?_
          refine zci (zrV (As := [.int key]) (rest := []) ⟨hx, hb, hml, hown, hts⟩ (zV 0 hP hD hK hE hB hS rfl rfl) (c_X4_kindOfStroke  (by omega) (by omega)) (cwV 1 hts gX4_strike_X4_kindOfStroke rfl rfl rfl hdv_X4_kindOfStroke ⟨Nat.le_of_ble_eq_true rfl, Nat.le_of_ble_eq_true rfl⟩) rfl rfl hl.1 rfl (lv_room (Nat.le_of_ble_eq_true rfl)) dX4_strike_61 ⟨Nat.le_of_ble_eq_true rfl, Nat.le_of_ble_eq_true rfl⟩) hS (fun H locs hP hD hS => ?_)
          have hP : va_P D vwCl (zWT cI cJ h (n, L) (kt, km, kl) (pt, pm, pl) (nu, le, ow, fo, run, wc, lc, tr, cl, tm, ms) (yl, yc, yt, co, pa, su, sc) mc ++ R) _ := hP
          have hD : va_D (zAb B) (zWT cI cJ h (n, L) (kt, km, kl) (pt, pm, pl) (nu, le, ow, fo, run, wc, lc, tr, cl, tm, ms) (yl, yc, yt, co, pa, su, sc) mc ++ R) := hD
          rw [show (zkd key le ow lc tr) = 0 from hk0]
          refine lv_istore_n (lv' := [(3, .int 0), (0, .ref (h 0)), (1, .int key), (2, .int (nI time))]) hx hb dX4_strike_64 rfl hl (by decide) rfl (fun ls hl => ?_)
          refine lv_aload_n hx hb dX4_strike_65 rfl (lv_at hl 1 rfl) ?_
          refine va_get (ci := 4) (v := .ref (h 11)) (C := RX4) (T := TX4) (N := 6) hx hb hts hinX4 hown hK hP 0 rfl rfl 3 (by decide) (hts (.fieldLink RX4 31 "TypingTutor" "current" "LTypingTutor$Lesson;") (List.mem_of_getElem? (i := 7) rfl)) (fun _ h9 => h9) rfl dX4_strike_66 ?_
          refine lv_iload_n hx hb dX4_strike_69 rfl (lv_at hl 0 rfl) ?_
          refine lv_iload_n hx hb dX4_strike_70 rfl (lv_at hl 3 rfl) ?_
          refine zcv (zrV (As := [.int 0, .int (nI time)]) (rest := []) ⟨hx, hb, hml, hown, hts⟩ (zV 11 hP hD hK hE hB hS rfl rfl) (c_X2_noteStroke_0 (time := time) ) (cwV 2 hts gX4_strike_X2_noteStroke rfl rfl rfl hdv_X2_noteStroke ⟨Nat.le_of_ble_eq_true rfl, Nat.le_of_ble_eq_true rfl⟩) rfl rfl hl.1 rfl (lv_room (Nat.le_of_ble_eq_true rfl)) dX4_strike_71 ⟨Nat.le_of_ble_eq_true rfl, Nat.le_of_ble_eq_true rfl⟩) hS (fun H locs hP hD hS => ?_)
          have hP : va_P D vwCl (zWT cI cJ h (n, L) (kt, km, kl) (pt, pm, pl) (nu, le, ow, fo, run, wc, lc, tr, cl, (tm + time), ms) (yl, yc, yt, co, pa, su, sc) mc ++ R) _ := hP
          have hD : va_D (zAb B) (zWT cI cJ h (n, L) (kt, km, kl) (pt, pm, pl) (nu, le, ow, fo, run, wc, lc, tr, cl, (tm + time), ms) (yl, yc, yt, co, pa, su, sc) mc ++ R) := hD
          refine lv_iload_n hx hb dX4_strike_74 rfl (lv_at hl 0 rfl) ?_
          refine lv_if_eq (tgt := 96) hx hb dX4_strike_75 (by decide) (fun c_5 => ?_) (fun c_5 => ?_)
          · skip
            refine lv_iload_n hx hb dX4_strike_96 rfl (lv_at hl 0 rfl) ?_
            refine lv_if_eq (tgt := 111) hx hb dX4_strike_97 (by decide) (fun c_6 => ?_) (fun c_6 => ?_)
            · skip
              refine lv_aload_n hx hb dX4_strike_111 rfl (lv_at hl 1 rfl) ?_
              refine lv_iload_n hx hb dX4_strike_112 rfl (lv_at hl 3 rfl) ?_
              refine zcv (zrV (As := [.int (nI time)]) (rest := []) ⟨hx, hb, hml, hown, hts⟩ (zV 0 hP hD hK hE hB hS rfl rfl) (c_X4_tryLetter (x := x) (o := o) (fin := fin) (hx9) (hx26) (ho) (hoy) (hf) (htr) (hlc) (hcl) (hco)) (cwV 1 hts gX4_strike_X4_tryLetter rfl rfl rfl hdv_X4_tryLetter ⟨Nat.le_of_ble_eq_true rfl, Nat.le_of_ble_eq_true rfl⟩) rfl rfl hl.1 rfl (lv_room (Nat.le_of_ble_eq_true rfl)) dX4_strike_113 ⟨Nat.le_of_ble_eq_true rfl, Nat.le_of_ble_eq_true rfl⟩) hS (fun H locs hP hD hS => ?_)
              have hP : va_P D vwCl (zWT cI cJ h (n, L) ((zkt kt x), (zkm (zc0 ms) km x), (zkl (zc0 ms) kl x (nI time))) ((zou o x pt (zkt pt)), (zou o x pm (zkm (zc0 ms) pm)), (zou o x pl (fun p => zkl (zc0 ms) pl p (nI time)))) (nu, le, ow, fo, (zsel fin false run), wc, lc, (tr + 1), (zsel (zc0 ms) (cl + 1) cl), (tm + time), 0) ((zsel fin (upd yl co (nI lc)) yl), (zsel fin (upd yc co (nI (zsel (zc0 ms) (cl + 1) cl))) yc), (zsel fin (upd yt co (nI (tm + time))) yt), (zsel fin (co + 1) co), (zsel fin (zpc pa lc (zsel (zc0 ms) (cl + 1) cl)) pa), (zsel fin (su + lc) su), (zsel fin (sc + (zsel (zc0 ms) (cl + 1) cl)) sc)) mc ++ R) _ := hP
              have hD : va_D (zAb B) (zWT cI cJ h (n, L) ((zkt kt x), (zkm (zc0 ms) km x), (zkl (zc0 ms) kl x (nI time))) ((zou o x pt (zkt pt)), (zou o x pm (zkm (zc0 ms) pm)), (zou o x pl (fun p => zkl (zc0 ms) pl p (nI time)))) (nu, le, ow, fo, (zsel fin false run), wc, lc, (tr + 1), (zsel (zc0 ms) (cl + 1) cl), (tm + time), 0) ((zsel fin (upd yl co (nI lc)) yl), (zsel fin (upd yc co (nI (zsel (zc0 ms) (cl + 1) cl))) yc), (zsel fin (upd yt co (nI (tm + time))) yt), (zsel fin (co + 1) co), (zsel fin (zpc pa lc (zsel (zc0 ms) (cl + 1) cl)) pa), (zsel fin (su + lc) su), (zsel fin (sc + (zsel (zc0 ms) (cl + 1) cl)) sc)) mc ++ R) := hD
              refine lv_iload_n hx hb dX4_strike_116 rfl (lv_at hl 0 rfl) ?_
              exact W.iret (v := 0) hx hb hr (fun t ht hW => ⟨⟨_, (), rfl, rfl, by rw [ht]; exact hP, hD⟩, hS.F ht⟩) hS.2.2 dX4_strike_117
            · skip
              exfalso; first | omega | (revert c_6; decide) | (exact absurd rfl c_6) | simp_all
          · skip
            exfalso; first | omega | (revert c_5; decide) | (exact absurd rfl c_5) | simp_all
        · skip
          have c_4 : run = false := zb_0 c_4
          exact absurd (c_4.symm.trans hrun) (by decide)
      · skip
        have c_3 : ¬ time ≤ 5000 := fun hh => c_3 ((nI_leI (a := time) (b := 5000) (by omega) (by omega)).mpr hh)
        omega
  · skip
    have c_1 := zq_0 c_1
    exact absurd h1 c_1

set_option maxHeartbeats 4000000 in
set_option maxRecDepth 100000 in
theorem c_X4_strike_w1 {l : Launch} {B kr kp : Nat} {D : va_G} {cI cJ cZ : ClassId} {h : Nat → Nat} {R : va_W} {n : Nat} {L : Nat → Int64} {kt : Nat → Int32} {km : Nat → Int32} {kl : Nat → Int32} {pt : Nat → Int32} {pm : Nat → Int32} {pl : Nat → Int32} {nu : Nat → Int32} {le : Nat → Int32} {ow : Nat → Int32} {fo : Nat → Int32} {run : Bool} {wc : Nat} {lc : Nat} {tr : Nat} {cl : Nat} {tm : Nat} {ms : Nat} {yl : Nat → Int32} {yc : Nat → Int32} {yt : Nat → Int32} {co : Nat} {pa : Int32} {su : Nat} {sc : Nat} {mc : Nat → Int32} {key : Int32} {time : Nat} {kk : Nat}  (h1 : ¬ key < 0 ∧ ¬ 26 ≤ key) (ht1 : 1 ≤ time) (ht2 : time ≤ 5000) (hrun : run = true) (htr : tr < lc) (hlc : lc ≤ 48) (hms : ms = 0) (hkk : zkd key le ow lc tr = nI kk) (hk1 : 1 ≤ kk) (hk4 : kk ≤ 4) : Met l yX4_strike wsX4_strike ({ frames := 4, cells := 0, slots := 0, locals := 84 }) (zPc B kr kp D (zTy cI cJ cZ) (zWT cI cJ h (n, L) (kt, km, kl) (pt, pm, pl) (nu, le, ow, fo, run, wc, lc, tr, cl, tm, ms) (yl, yc, yt, co, pa, su, sc) mc ++ R) [.ref (h 0), .int key, .int (nI time)]) (zQi B D (zWT cI cJ h (n, L) (kt, km, kl) (pt, pm, pl) (nu, le, ow, fo, run, wc, lc, tr, cl, (tm + time), (ms + 1)) (yl, yc, yt, co, pa, su, sc) (upd mc kk (mc kk + 1)) ++ R) (nI kk)) 0 0 (zAb B) := by
  refine Met.ofW (cc := cX4_strike) (maxL := 4) (ret := (some .int)) (by decide) rfl ?_
  intro p e s m args below meth c s₁ B0 hml hv
  obtain ⟨rfl, hP, hD, hK, hE, hB⟩ := hv
  have hx := B0.exec
  have hb := B0.bytes
  have hr := B0.returns
  have hts := atoms_spec (ws := wsX4_strike) B0.pre
  have hown : s.vm.findClass RX4 = some m.cls := findClass_of_methodNamed B0.named
  have hlocks := B0.notSynchronized
  have hA : ∀ q : Nat, s.heap.size ≤ q → zAb B q := fun q hq => Nat.le_trans hB hq
  have hS : va_S (zAb B) s.heap s.heap [] := va_S.rf
  have hl := lv_entry ([.ref (h 0), .int key, .int (nI time)]) (n := 4) (Nat.le_of_ble_eq_true rfl)
  rw [lg_entry_eq]
  generalize (lg_sl ([.ref (h 0), .int key, .int (nI time)]) ++ List.replicate (4 - (lg_sl ([.ref (h 0), .int key, .int (nI time)])).length) Slot.unset).toArray = ls at hl ⊢
  have hl : lv_has ls 4 [(0, .ref (h 0)), (1, .int key), (2, .int (nI time))] := hl
  have hinX4 : ∀ w ∈ wsX40, w ∈ wsX4_strike := fun _ h => List.mem_cons_of_mem _ (List.mem_append_left _ (List.mem_append_left _ (List.mem_append_left _ (List.mem_append_left _ (List.mem_append_left _ (List.mem_append_left _ (List.mem_append_right _ h)))))))
  have hP : va_P D vwCl (zWT cI cJ h (n, L) (kt, km, kl) (pt, pm, pl) (nu, le, ow, fo, run, wc, lc, tr, cl, tm, ms) (yl, yc, yt, co, pa, su, sc) mc ++ R) s.heap := hP
  have hD : va_D (zAb B) (zWT cI cJ h (n, L) (kt, km, kl) (pt, pm, pl) (nu, le, ow, fo, run, wc, lc, tr, cl, tm, ms) (yl, yc, yt, co, pa, su, sc) mc ++ R) := hD
  refine lv_iload_n hx hb dX4_strike_0 rfl (lv_at hl 1 rfl) ?_
  refine zci (zrS (As := [.int key]) (rest := []) ⟨hx, hb, hml, hown, hts⟩ (zS hP hD hK hE hB hS) (c_X4_isKey  ) (va_cwS 1 hts gX4_strike_X4_isKey rfl rfl rfl hds_X4_isKey ⟨Nat.le_of_ble_eq_true rfl, Nat.le_of_ble_eq_true rfl⟩) rfl rfl hl.1 rfl (lv_room (Nat.le_of_ble_eq_true rfl)) dX4_strike_1 ⟨Nat.le_of_ble_eq_true rfl, Nat.le_of_ble_eq_true rfl⟩) hS (fun H locs hP hD hS => ?_)
  have hP : va_P D vwCl (zWT cI cJ h (n, L) (kt, km, kl) (pt, pm, pl) (nu, le, ow, fo, run, wc, lc, tr, cl, tm, ms) (yl, yc, yt, co, pa, su, sc) mc ++ R) _ := hP
  have hD : va_D (zAb B) (zWT cI cJ h (n, L) (kt, km, kl) (pt, pm, pl) (nu, le, ow, fo, run, wc, lc, tr, cl, tm, ms) (yl, yc, yt, co, pa, su, sc) mc ++ R) := hD
  refine lv_if_ne (tgt := 17) hx hb dX4_strike_4 (by decide) (fun c_1 => ?_) (fun c_1 => ?_)
  · skip
    have c_1 := zq_n c_1
    refine lv_iload_n hx hb dX4_strike_17 rfl (lv_at hl 2 rfl) ?_
    refine lv_iconst (v := 1) hx hb dX4_strike_18 (by decide) ?_
    refine lv_icmp_lt (tgt := 29) hx hb dX4_strike_19 (by decide) (fun c_2 => ?_) (fun c_2 => ?_)
    · skip
      have c_2 : time < 1 := (nI_ltI (a := time) (b := 1) (by omega) (by omega)).mp c_2
      omega
    · skip
      have c_2 : ¬ time < 1 := fun hh => c_2 ((nI_ltI (a := time) (b := 1) (by omega) (by omega)).mpr hh)
      refine lv_iload_n hx hb dX4_strike_22 rfl (lv_at hl 2 rfl) ?_
      refine lv_sipush (v := 5000) hx hb dX4_strike_23 (by decide) ?_
      refine lv_icmp_le (tgt := 39) hx hb dX4_strike_26 (by decide) (fun c_3 => ?_) (fun c_3 => ?_)
      · skip
        have c_3 : time ≤ 5000 := (nI_leI (a := time) (b := 5000) (by omega) (by omega)).mp c_3
        refine lv_aload_n hx hb dX4_strike_39 rfl (lv_at hl 0 rfl) ?_
        refine va_get (ci := 4) (v := .ref (h 11)) (C := RX4) (T := TX4) (N := 6) hx hb hts hinX4 hown hK hP 0 rfl rfl 3 (by decide) (hts (.fieldLink RX4 31 "TypingTutor" "current" "LTypingTutor$Lesson;") (List.mem_of_getElem? (i := 7) rfl)) (fun _ h9 => h9) rfl dX4_strike_40 ?_
        refine zci (zrV (As := []) (rest := []) ⟨hx, hb, hml, hown, hts⟩ (zV 11 hP hD hK hE hB hS rfl rfl) (c_X2_isRunning  ) (cwV 0 hts gX4_strike_X2_isRunning rfl rfl rfl hdv_X2_isRunning ⟨Nat.le_of_ble_eq_true rfl, Nat.le_of_ble_eq_true rfl⟩) rfl rfl hl.1 rfl (lv_room (Nat.le_of_ble_eq_true rfl)) dX4_strike_43 ⟨Nat.le_of_ble_eq_true rfl, Nat.le_of_ble_eq_true rfl⟩) hS (fun H locs hP hD hS => ?_)
        have hP : va_P D vwCl (zWT cI cJ h (n, L) (kt, km, kl) (pt, pm, pl) (nu, le, ow, fo, run, wc, lc, tr, cl, tm, ms) (yl, yc, yt, co, pa, su, sc) mc ++ R) _ := hP
        have hD : va_D (zAb B) (zWT cI cJ h (n, L) (kt, km, kl) (pt, pm, pl) (nu, le, ow, fo, run, wc, lc, tr, cl, tm, ms) (yl, yc, yt, co, pa, su, sc) mc ++ R) := hD
        refine lv_if_ne (tgt := 59) hx hb dX4_strike_46 (by decide) (fun c_4 => ?_) (fun c_4 => ?_)
        · skip
          have c_4 : run = true := zb_n c_4
          refine lv_aload_n hx hb dX4_strike_59 rfl (lv_at hl 0 rfl) ?_
          refine lv_iload_n hx hb dX4_strike_60 rfl (lv_at hl 1 rfl) ?_
          refine zci (zrV (As := [.int key]) (rest := []) ⟨hx, hb, hml, hown, hts⟩ (zV 0 hP hD hK hE hB hS rfl rfl) (c_X4_kindOfStroke  (by omega) (by omega)) (cwV 1 hts gX4_strike_X4_kindOfStroke rfl rfl rfl hdv_X4_kindOfStroke ⟨Nat.le_of_ble_eq_true rfl, Nat.le_of_ble_eq_true rfl⟩) rfl rfl hl.1 rfl (lv_room (Nat.le_of_ble_eq_true rfl)) dX4_strike_61 ⟨Nat.le_of_ble_eq_true rfl, Nat.le_of_ble_eq_true rfl⟩) hS (fun H locs hP hD hS => ?_)
          have hP : va_P D vwCl (zWT cI cJ h (n, L) (kt, km, kl) (pt, pm, pl) (nu, le, ow, fo, run, wc, lc, tr, cl, tm, ms) (yl, yc, yt, co, pa, su, sc) mc ++ R) _ := hP
          have hD : va_D (zAb B) (zWT cI cJ h (n, L) (kt, km, kl) (pt, pm, pl) (nu, le, ow, fo, run, wc, lc, tr, cl, tm, ms) (yl, yc, yt, co, pa, su, sc) mc ++ R) := hD
          rw [show (zkd key le ow lc tr) = (nI kk) from hkk]
          refine lv_istore_n (lv' := [(3, .int (nI kk)), (0, .ref (h 0)), (1, .int key), (2, .int (nI time))]) hx hb dX4_strike_64 rfl hl (by decide) rfl (fun ls hl => ?_)
          refine lv_aload_n hx hb dX4_strike_65 rfl (lv_at hl 1 rfl) ?_
          refine va_get (ci := 4) (v := .ref (h 11)) (C := RX4) (T := TX4) (N := 6) hx hb hts hinX4 hown hK hP 0 rfl rfl 3 (by decide) (hts (.fieldLink RX4 31 "TypingTutor" "current" "LTypingTutor$Lesson;") (List.mem_of_getElem? (i := 7) rfl)) (fun _ h9 => h9) rfl dX4_strike_66 ?_
          refine lv_iload_n hx hb dX4_strike_69 rfl (lv_at hl 0 rfl) ?_
          refine lv_iload_n hx hb dX4_strike_70 rfl (lv_at hl 3 rfl) ?_
          refine zcv (zrV (As := [.int (nI kk), .int (nI time)]) (rest := []) ⟨hx, hb, hml, hown, hts⟩ (zV 11 hP hD hK hE hB hS rfl rfl) (c_X2_noteStroke_x (time := time) (nI_ne0 (by omega) (by omega))) (cwV 2 hts gX4_strike_X2_noteStroke rfl rfl rfl hdv_X2_noteStroke ⟨Nat.le_of_ble_eq_true rfl, Nat.le_of_ble_eq_true rfl⟩) rfl rfl hl.1 rfl (lv_room (Nat.le_of_ble_eq_true rfl)) dX4_strike_71 ⟨Nat.le_of_ble_eq_true rfl, Nat.le_of_ble_eq_true rfl⟩) hS (fun H locs hP hD hS => ?_)
          have hP : va_P D vwCl (zWT cI cJ h (n, L) (kt, km, kl) (pt, pm, pl) (nu, le, ow, fo, run, wc, lc, tr, cl, (tm + time), (ms + 1)) (yl, yc, yt, co, pa, su, sc) mc ++ R) _ := hP
          have hD : va_D (zAb B) (zWT cI cJ h (n, L) (kt, km, kl) (pt, pm, pl) (nu, le, ow, fo, run, wc, lc, tr, cl, (tm + time), (ms + 1)) (yl, yc, yt, co, pa, su, sc) mc ++ R) := hD
          refine lv_iload_n hx hb dX4_strike_74 rfl (lv_at hl 0 rfl) ?_
          refine lv_if_eq (tgt := 96) hx hb dX4_strike_75 (by decide) (fun c_5 => ?_) (fun c_5 => ?_)
          · skip
            have c_5 : kk = 0 := (nI_eq (a := kk) (b := 0) (by omega) (by omega)).mp c_5
            exfalso; first | omega | (revert c_5; decide) | (exact absurd rfl c_5) | simp_all
          · skip
            have c_5 : ¬ kk = 0 := fun hh => c_5 ((nI_eq (a := kk) (b := 0) (by omega) (by omega)).mpr hh)
            refine lv_aload_n hx hb dX4_strike_78 rfl (lv_at hl 1 rfl) ?_
            refine va_get (ci := 4) (v := .ref (h 20)) (C := RX4) (T := TX4) (N := 6) hx hb hts hinX4 hown hK hP 0 rfl rfl 5 (by decide) (hts (.fieldLink RX4 42 "TypingTutor" "mistakeCounts" "[I") (List.mem_of_getElem? (i := 8) rfl)) (fun _ h9 => h9) rfl dX4_strike_79 ?_
            refine lv_iload_n hx hb dX4_strike_82 rfl (lv_at hl 0 rfl) ?_
            refine lv_aload_n hx hb dX4_strike_83 rfl (lv_at hl 1 rfl) ?_
            refine va_get (ci := 4) (v := .ref (h 20)) (C := RX4) (T := TX4) (N := 6) hx hb hts hinX4 hown hK hP 0 rfl rfl 5 (by decide) (hts (.fieldLink RX4 42 "TypingTutor" "mistakeCounts" "[I") (List.mem_of_getElem? (i := 8) rfl)) (fun _ h9 => h9) rfl dX4_strike_84 ?_
            refine lv_iload_n hx hb dX4_strike_87 rfl (lv_at hl 0 rfl) ?_
            refine zci (zrS (As := [.ref (h 20), .int (nI kk)]) (rest := [.int (nI kk), .ref (h 20)]) ⟨hx, hb, hml, hown, hts⟩ (zS hP hD hK hE hB hS) (c_X4_read (q0 := 20) rfl (by omega)) (va_cwS 2 hts gX4_strike_X4_read rfl rfl rfl hds_X4_read ⟨Nat.le_of_ble_eq_true rfl, Nat.le_of_ble_eq_true rfl⟩) rfl rfl hl.1 rfl (lv_room (Nat.le_of_ble_eq_true rfl)) dX4_strike_88 ⟨Nat.le_of_ble_eq_true rfl, Nat.le_of_ble_eq_true rfl⟩) hS (fun H locs hP hD hS => ?_)
            have hP : va_P D vwCl (zWT cI cJ h (n, L) (kt, km, kl) (pt, pm, pl) (nu, le, ow, fo, run, wc, lc, tr, cl, (tm + time), (ms + 1)) (yl, yc, yt, co, pa, su, sc) mc ++ R) _ := hP
            have hD : va_D (zAb B) (zWT cI cJ h (n, L) (kt, km, kl) (pt, pm, pl) (nu, le, ow, fo, run, wc, lc, tr, cl, (tm + time), (ms + 1)) (yl, yc, yt, co, pa, su, sc) mc ++ R) := hD
            rw [show (zrd 5 mc (nI kk)) = (mc kk) from (zrd_in (n := 5) (k := kk) (f := mc) (by omega) (by omega))]
            refine lv_iconst (v := 1) hx hb dX4_strike_91 (by decide) ?_
            refine lv_iadd hx hb dX4_strike_92 ?_
            refine zcv (zrS (As := [.ref (h 20), .int (nI kk), .int ((mc kk) + 1)]) (rest := []) ⟨hx, hb, hml, hown, hts⟩ (zS hP hD hK hE hB hS) (c_X4_write (q0 := 20) rfl (by omega)) (va_cwS 3 hts gX4_strike_X4_write rfl rfl rfl hds_X4_write ⟨Nat.le_of_ble_eq_true rfl, Nat.le_of_ble_eq_true rfl⟩) rfl rfl hl.1 rfl (lv_room (Nat.le_of_ble_eq_true rfl)) dX4_strike_93 ⟨Nat.le_of_ble_eq_true rfl, Nat.le_of_ble_eq_true rfl⟩) hS (fun H locs hP hD hS => ?_)
            have hP : va_P D vwCl (zWT cI cJ h (n, L) (kt, km, kl) (pt, pm, pl) (nu, le, ow, fo, run, wc, lc, tr, cl, (tm + time), (ms + 1)) (yl, yc, yt, co, pa, su, sc) (zwr 5 mc (nI kk) ((mc kk) + 1)) ++ R) _ := hP
            have hD : va_D (zAb B) (zWT cI cJ h (n, L) (kt, km, kl) (pt, pm, pl) (nu, le, ow, fo, run, wc, lc, tr, cl, (tm + time), (ms + 1)) (yl, yc, yt, co, pa, su, sc) (zwr 5 mc (nI kk) ((mc kk) + 1)) ++ R) := hD
            rw [show (zwr 5 mc (nI kk) ((mc kk) + 1)) = (upd mc kk ((mc kk) + 1)) from (zwr_in (n := 5) (k := kk) (f := mc) (v := ((mc kk) + 1)) (by omega) (by omega))] at hP hD
            have hP : va_P D vwCl (zWT cI cJ h (n, L) (kt, km, kl) (pt, pm, pl) (nu, le, ow, fo, run, wc, lc, tr, cl, (tm + time), (ms + 1)) (yl, yc, yt, co, pa, su, sc) (upd mc kk ((mc kk) + 1)) ++ R) _ := hP
            have hD : va_D (zAb B) (zWT cI cJ h (n, L) (kt, km, kl) (pt, pm, pl) (nu, le, ow, fo, run, wc, lc, tr, cl, (tm + time), (ms + 1)) (yl, yc, yt, co, pa, su, sc) (upd mc kk ((mc kk) + 1)) ++ R) := hD
            refine lv_iload_n hx hb dX4_strike_96 rfl (lv_at hl 0 rfl) ?_
            refine lv_if_eq (tgt := 111) hx hb dX4_strike_97 (by decide) (fun c_6 => ?_) (fun c_6 => ?_)
            · skip
              have c_6 : kk = 0 := (nI_eq (a := kk) (b := 0) (by omega) (by omega)).mp c_6
              exfalso; first | omega | (revert c_6; decide) | (exact absurd rfl c_6) | simp_all
            · skip
              have c_6 : ¬ kk = 0 := fun hh => c_6 ((nI_eq (a := kk) (b := 0) (by omega) (by omega)).mpr hh)
              refine lv_aload_n hx hb dX4_strike_100 rfl (lv_at hl 1 rfl) ?_
              refine va_get (ci := 4) (v := .ref (h 11)) (C := RX4) (T := TX4) (N := 6) hx hb hts hinX4 hown hK hP 0 rfl rfl 3 (by decide) (hts (.fieldLink RX4 31 "TypingTutor" "current" "LTypingTutor$Lesson;") (List.mem_of_getElem? (i := 7) rfl)) (fun _ h9 => h9) rfl dX4_strike_101 ?_
              refine zci (zrV (As := []) (rest := []) ⟨hx, hb, hml, hown, hts⟩ (zV 11 hP hD hK hE hB hS rfl rfl) (c_X2_mistakesHere  ) (cwV 0 hts gX4_strike_X2_mistakesHere rfl rfl rfl hdv_X2_mistakesHere ⟨Nat.le_of_ble_eq_true rfl, Nat.le_of_ble_eq_true rfl⟩) rfl rfl hl.1 rfl (lv_room (Nat.le_of_ble_eq_true rfl)) dX4_strike_104 ⟨Nat.le_of_ble_eq_true rfl, Nat.le_of_ble_eq_true rfl⟩) hS (fun H locs hP hD hS => ?_)
              have hP : va_P D vwCl (zWT cI cJ h (n, L) (kt, km, kl) (pt, pm, pl) (nu, le, ow, fo, run, wc, lc, tr, cl, (tm + time), (ms + 1)) (yl, yc, yt, co, pa, su, sc) (upd mc kk ((mc kk) + 1)) ++ R) _ := hP
              have hD : va_D (zAb B) (zWT cI cJ h (n, L) (kt, km, kl) (pt, pm, pl) (nu, le, ow, fo, run, wc, lc, tr, cl, (tm + time), (ms + 1)) (yl, yc, yt, co, pa, su, sc) (upd mc kk ((mc kk) + 1)) ++ R) := hD
              refine lv_iconst (v := 2) hx hb dX4_strike_107 (by decide) ?_
              refine lv_icmp_lt (tgt := 116) hx hb dX4_strike_108 (by decide) (fun c_7 => ?_) (fun c_7 => ?_)
              · skip
                have c_7 : (ms + 1) < 2 := (nI_ltI (a := (ms + 1)) (b := 2) (by omega) (by omega)).mp c_7
                refine lv_iload_n hx hb dX4_strike_116 rfl (lv_at hl 0 rfl) ?_
                exact W.iret (v := (nI kk)) hx hb hr (fun t ht hW => ⟨⟨_, (), rfl, rfl, by rw [ht]; exact hP, hD⟩, hS.F ht⟩) hS.2.2 dX4_strike_117
              · skip
                have c_7 : ¬ (ms + 1) < 2 := fun hh => c_7 ((nI_ltI (a := (ms + 1)) (b := 2) (by omega) (by omega)).mpr hh)
                exfalso; first | omega | (revert c_7; decide) | (exact absurd rfl c_7) | simp_all
        · skip
          have c_4 : run = false := zb_0 c_4
          exact absurd (c_4.symm.trans hrun) (by decide)
      · skip
        have c_3 : ¬ time ≤ 5000 := fun hh => c_3 ((nI_leI (a := time) (b := 5000) (by omega) (by omega)).mpr hh)
        omega
  · skip
    have c_1 := zq_0 c_1
    exact absurd h1 c_1

set_option maxHeartbeats 4000000 in
set_option maxRecDepth 100000 in
theorem c_X4_strike_w2 {l : Launch} {B kr kp : Nat} {D : va_G} {cI cJ cZ : ClassId} {h : Nat → Nat} {R : va_W} {n : Nat} {L : Nat → Int64} {kt : Nat → Int32} {km : Nat → Int32} {kl : Nat → Int32} {pt : Nat → Int32} {pm : Nat → Int32} {pl : Nat → Int32} {nu : Nat → Int32} {le : Nat → Int32} {ow : Nat → Int32} {fo : Nat → Int32} {run : Bool} {wc : Nat} {lc : Nat} {tr : Nat} {cl : Nat} {tm : Nat} {ms : Nat} {yl : Nat → Int32} {yc : Nat → Int32} {yt : Nat → Int32} {co : Nat} {pa : Int32} {su : Nat} {sc : Nat} {mc : Nat → Int32} {key : Int32} {time : Nat} {x : Nat} {o : Option Nat} {fin : Bool} {kk : Nat}  (h1 : ¬ key < 0 ∧ ¬ 26 ≤ key) (ht1 : 1 ≤ time) (ht2 : time ≤ 5000) (hrun : run = true) (hx9 : le tr = nI x) (hx26 : x < 26) (ho : zis le ow lc tr (nI tr - 1) = zoI o) (hoy : ∀ y, o = some y → y < 26) (hf : zsel fin (tr + 1 = lc) (tr + 1 < lc)) (htr : tr < lc) (hlc : lc ≤ 48) (hcl : cl ≤ tr) (hco : co < 256) (hms : ms = 1) (hkk : zkd key le ow lc tr = nI kk) (hk1 : 1 ≤ kk) (hk4 : kk ≤ 4) : Met l yX4_strike wsX4_strike ({ frames := 4, cells := 0, slots := 0, locals := 94 }) (zPc B kr kp D (zTy cI cJ cZ) (zWT cI cJ h (n, L) (kt, km, kl) (pt, pm, pl) (nu, le, ow, fo, run, wc, lc, tr, cl, tm, ms) (yl, yc, yt, co, pa, su, sc) mc ++ R) [.ref (h 0), .int key, .int (nI time)]) (zQi B D (zWT cI cJ h (n, L) ((zkt kt x), (zkm (zc0 (ms + 1)) km x), (zkl (zc0 (ms + 1)) kl x (nI time))) ((zou o x pt (zkt pt)), (zou o x pm (zkm (zc0 (ms + 1)) pm)), (zou o x pl (fun p => zkl (zc0 (ms + 1)) pl p (nI time)))) (nu, le, ow, fo, (zsel fin false run), wc, lc, (tr + 1), (zsel (zc0 (ms + 1)) (cl + 1) cl), (tm + time), 0) ((zsel fin (upd yl co (nI lc)) yl), (zsel fin (upd yc co (nI (zsel (zc0 (ms + 1)) (cl + 1) cl))) yc), (zsel fin (upd yt co (nI (tm + time))) yt), (zsel fin (co + 1) co), (zsel fin (zpc pa lc (zsel (zc0 (ms + 1)) (cl + 1) cl)) pa), (zsel fin (su + lc) su), (zsel fin (sc + (zsel (zc0 (ms + 1)) (cl + 1) cl)) sc)) (upd mc kk (mc kk + 1)) ++ R) (nI kk)) 0 0 (zAb B) := by
  refine Met.ofW (cc := cX4_strike) (maxL := 4) (ret := (some .int)) (by decide) rfl ?_
  intro p e s m args below meth c s₁ B0 hml hv
  obtain ⟨rfl, hP, hD, hK, hE, hB⟩ := hv
  have hx := B0.exec
  have hb := B0.bytes
  have hr := B0.returns
  have hts := atoms_spec (ws := wsX4_strike) B0.pre
  have hown : s.vm.findClass RX4 = some m.cls := findClass_of_methodNamed B0.named
  have hlocks := B0.notSynchronized
  have hA : ∀ q : Nat, s.heap.size ≤ q → zAb B q := fun q hq => Nat.le_trans hB hq
  have hS : va_S (zAb B) s.heap s.heap [] := va_S.rf
  have hl := lv_entry ([.ref (h 0), .int key, .int (nI time)]) (n := 4) (Nat.le_of_ble_eq_true rfl)
  rw [lg_entry_eq]
  generalize (lg_sl ([.ref (h 0), .int key, .int (nI time)]) ++ List.replicate (4 - (lg_sl ([.ref (h 0), .int key, .int (nI time)])).length) Slot.unset).toArray = ls at hl ⊢
  have hl : lv_has ls 4 [(0, .ref (h 0)), (1, .int key), (2, .int (nI time))] := hl
  have hinX4 : ∀ w ∈ wsX40, w ∈ wsX4_strike := fun _ h => List.mem_cons_of_mem _ (List.mem_append_left _ (List.mem_append_left _ (List.mem_append_left _ (List.mem_append_left _ (List.mem_append_left _ (List.mem_append_left _ (List.mem_append_right _ h)))))))
  have hP : va_P D vwCl (zWT cI cJ h (n, L) (kt, km, kl) (pt, pm, pl) (nu, le, ow, fo, run, wc, lc, tr, cl, tm, ms) (yl, yc, yt, co, pa, su, sc) mc ++ R) s.heap := hP
  have hD : va_D (zAb B) (zWT cI cJ h (n, L) (kt, km, kl) (pt, pm, pl) (nu, le, ow, fo, run, wc, lc, tr, cl, tm, ms) (yl, yc, yt, co, pa, su, sc) mc ++ R) := hD
  refine lv_iload_n hx hb dX4_strike_0 rfl (lv_at hl 1 rfl) ?_
  refine zci (zrS (As := [.int key]) (rest := []) ⟨hx, hb, hml, hown, hts⟩ (zS hP hD hK hE hB hS) (c_X4_isKey  ) (va_cwS 1 hts gX4_strike_X4_isKey rfl rfl rfl hds_X4_isKey ⟨Nat.le_of_ble_eq_true rfl, Nat.le_of_ble_eq_true rfl⟩) rfl rfl hl.1 rfl (lv_room (Nat.le_of_ble_eq_true rfl)) dX4_strike_1 ⟨Nat.le_of_ble_eq_true rfl, Nat.le_of_ble_eq_true rfl⟩) hS (fun H locs hP hD hS => ?_)
  have hP : va_P D vwCl (zWT cI cJ h (n, L) (kt, km, kl) (pt, pm, pl) (nu, le, ow, fo, run, wc, lc, tr, cl, tm, ms) (yl, yc, yt, co, pa, su, sc) mc ++ R) _ := hP
  have hD : va_D (zAb B) (zWT cI cJ h (n, L) (kt, km, kl) (pt, pm, pl) (nu, le, ow, fo, run, wc, lc, tr, cl, tm, ms) (yl, yc, yt, co, pa, su, sc) mc ++ R) := hD
  refine lv_if_ne (tgt := 17) hx hb dX4_strike_4 (by decide) (fun c_1 => ?_) (fun c_1 => ?_)
  · skip
    have c_1 := zq_n c_1
    refine lv_iload_n hx hb dX4_strike_17 rfl (lv_at hl 2 rfl) ?_
    refine lv_iconst (v := 1) hx hb dX4_strike_18 (by decide) ?_
    refine lv_icmp_lt (tgt := 29) hx hb dX4_strike_19 (by decide) (fun c_2 => ?_) (fun c_2 => ?_)
    · skip
      have c_2 : time < 1 := (nI_ltI (a := time) (b := 1) (by omega) (by omega)).mp c_2
      omega
    · skip
      have c_2 : ¬ time < 1 := fun hh => c_2 ((nI_ltI (a := time) (b := 1) (by omega) (by omega)).mpr hh)
      refine lv_iload_n hx hb dX4_strike_22 rfl (lv_at hl 2 rfl) ?_
      refine lv_sipush (v := 5000) hx hb dX4_strike_23 (by decide) ?_
      refine lv_icmp_le (tgt := 39) hx hb dX4_strike_26 (by decide) (fun c_3 => ?_) (fun c_3 => ?_)
      · skip
        have c_3 : time ≤ 5000 := (nI_leI (a := time) (b := 5000) (by omega) (by omega)).mp c_3
        refine lv_aload_n hx hb dX4_strike_39 rfl (lv_at hl 0 rfl) ?_
        refine va_get (ci := 4) (v := .ref (h 11)) (C := RX4) (T := TX4) (N := 6) hx hb hts hinX4 hown hK hP 0 rfl rfl 3 (by decide) (hts (.fieldLink RX4 31 "TypingTutor" "current" "LTypingTutor$Lesson;") (List.mem_of_getElem? (i := 7) rfl)) (fun _ h9 => h9) rfl dX4_strike_40 ?_
        refine zci (zrV (As := []) (rest := []) ⟨hx, hb, hml, hown, hts⟩ (zV 11 hP hD hK hE hB hS rfl rfl) (c_X2_isRunning  ) (cwV 0 hts gX4_strike_X2_isRunning rfl rfl rfl hdv_X2_isRunning ⟨Nat.le_of_ble_eq_true rfl, Nat.le_of_ble_eq_true rfl⟩) rfl rfl hl.1 rfl (lv_room (Nat.le_of_ble_eq_true rfl)) dX4_strike_43 ⟨Nat.le_of_ble_eq_true rfl, Nat.le_of_ble_eq_true rfl⟩) hS (fun H locs hP hD hS => ?_)
        have hP : va_P D vwCl (zWT cI cJ h (n, L) (kt, km, kl) (pt, pm, pl) (nu, le, ow, fo, run, wc, lc, tr, cl, tm, ms) (yl, yc, yt, co, pa, su, sc) mc ++ R) _ := hP
        have hD : va_D (zAb B) (zWT cI cJ h (n, L) (kt, km, kl) (pt, pm, pl) (nu, le, ow, fo, run, wc, lc, tr, cl, tm, ms) (yl, yc, yt, co, pa, su, sc) mc ++ R) := hD
        refine lv_if_ne (tgt := 59) hx hb dX4_strike_46 (by decide) (fun c_4 => ?_) (fun c_4 => ?_)
        · skip
          have c_4 : run = true := zb_n c_4
          refine lv_aload_n hx hb dX4_strike_59 rfl (lv_at hl 0 rfl) ?_
          refine lv_iload_n hx hb dX4_strike_60 rfl (lv_at hl 1 rfl) ?_
          refine zci (zrV (As := [.int key]) (rest := []) ⟨hx, hb, hml, hown, hts⟩ (zV 0 hP hD hK hE hB hS rfl rfl) (c_X4_kindOfStroke  (by omega) (by omega)) (cwV 1 hts gX4_strike_X4_kindOfStroke rfl rfl rfl hdv_X4_kindOfStroke ⟨Nat.le_of_ble_eq_true rfl, Nat.le_of_ble_eq_true rfl⟩) rfl rfl hl.1 rfl (lv_room (Nat.le_of_ble_eq_true rfl)) dX4_strike_61 ⟨Nat.le_of_ble_eq_true rfl, Nat.le_of_ble_eq_true rfl⟩) hS (fun H locs hP hD hS => ?_)
          have hP : va_P D vwCl (zWT cI cJ h (n, L) (kt, km, kl) (pt, pm, pl) (nu, le, ow, fo, run, wc, lc, tr, cl, tm, ms) (yl, yc, yt, co, pa, su, sc) mc ++ R) _ := hP
          have hD : va_D (zAb B) (zWT cI cJ h (n, L) (kt, km, kl) (pt, pm, pl) (nu, le, ow, fo, run, wc, lc, tr, cl, tm, ms) (yl, yc, yt, co, pa, su, sc) mc ++ R) := hD
          rw [show (zkd key le ow lc tr) = (nI kk) from hkk]
          refine lv_istore_n (lv' := [(3, .int (nI kk)), (0, .ref (h 0)), (1, .int key), (2, .int (nI time))]) hx hb dX4_strike_64 rfl hl (by decide) rfl (fun ls hl => ?_)
          refine lv_aload_n hx hb dX4_strike_65 rfl (lv_at hl 1 rfl) ?_
          refine va_get (ci := 4) (v := .ref (h 11)) (C := RX4) (T := TX4) (N := 6) hx hb hts hinX4 hown hK hP 0 rfl rfl 3 (by decide) (hts (.fieldLink RX4 31 "TypingTutor" "current" "LTypingTutor$Lesson;") (List.mem_of_getElem? (i := 7) rfl)) (fun _ h9 => h9) rfl dX4_strike_66 ?_
          refine lv_iload_n hx hb dX4_strike_69 rfl (lv_at hl 0 rfl) ?_
          refine lv_iload_n hx hb dX4_strike_70 rfl (lv_at hl 3 rfl) ?_
          refine zcv (zrV (As := [.int (nI kk), .int (nI time)]) (rest := []) ⟨hx, hb, hml, hown, hts⟩ (zV 11 hP hD hK hE hB hS rfl rfl) (c_X2_noteStroke_x (time := time) (nI_ne0 (by omega) (by omega))) (cwV 2 hts gX4_strike_X2_noteStroke rfl rfl rfl hdv_X2_noteStroke ⟨Nat.le_of_ble_eq_true rfl, Nat.le_of_ble_eq_true rfl⟩) rfl rfl hl.1 rfl (lv_room (Nat.le_of_ble_eq_true rfl)) dX4_strike_71 ⟨Nat.le_of_ble_eq_true rfl, Nat.le_of_ble_eq_true rfl⟩) hS (fun H locs hP hD hS => ?_)
          have hP : va_P D vwCl (zWT cI cJ h (n, L) (kt, km, kl) (pt, pm, pl) (nu, le, ow, fo, run, wc, lc, tr, cl, (tm + time), (ms + 1)) (yl, yc, yt, co, pa, su, sc) mc ++ R) _ := hP
          have hD : va_D (zAb B) (zWT cI cJ h (n, L) (kt, km, kl) (pt, pm, pl) (nu, le, ow, fo, run, wc, lc, tr, cl, (tm + time), (ms + 1)) (yl, yc, yt, co, pa, su, sc) mc ++ R) := hD
          refine lv_iload_n hx hb dX4_strike_74 rfl (lv_at hl 0 rfl) ?_
          refine lv_if_eq (tgt := 96) hx hb dX4_strike_75 (by decide) (fun c_5 => ?_) (fun c_5 => ?_)
          · skip
            have c_5 : kk = 0 := (nI_eq (a := kk) (b := 0) (by omega) (by omega)).mp c_5
            exfalso; first | omega | (revert c_5; decide) | (exact absurd rfl c_5) | simp_all
          · skip
            have c_5 : ¬ kk = 0 := fun hh => c_5 ((nI_eq (a := kk) (b := 0) (by omega) (by omega)).mpr hh)
            refine lv_aload_n hx hb dX4_strike_78 rfl (lv_at hl 1 rfl) ?_
            refine va_get (ci := 4) (v := .ref (h 20)) (C := RX4) (T := TX4) (N := 6) hx hb hts hinX4 hown hK hP 0 rfl rfl 5 (by decide) (hts (.fieldLink RX4 42 "TypingTutor" "mistakeCounts" "[I") (List.mem_of_getElem? (i := 8) rfl)) (fun _ h9 => h9) rfl dX4_strike_79 ?_
            refine lv_iload_n hx hb dX4_strike_82 rfl (lv_at hl 0 rfl) ?_
            refine lv_aload_n hx hb dX4_strike_83 rfl (lv_at hl 1 rfl) ?_
            refine va_get (ci := 4) (v := .ref (h 20)) (C := RX4) (T := TX4) (N := 6) hx hb hts hinX4 hown hK hP 0 rfl rfl 5 (by decide) (hts (.fieldLink RX4 42 "TypingTutor" "mistakeCounts" "[I") (List.mem_of_getElem? (i := 8) rfl)) (fun _ h9 => h9) rfl dX4_strike_84 ?_
            refine lv_iload_n hx hb dX4_strike_87 rfl (lv_at hl 0 rfl) ?_
            refine zci (zrS (As := [.ref (h 20), .int (nI kk)]) (rest := [.int (nI kk), .ref (h 20)]) ⟨hx, hb, hml, hown, hts⟩ (zS hP hD hK hE hB hS) (c_X4_read (q0 := 20) rfl (by omega)) (va_cwS 2 hts gX4_strike_X4_read rfl rfl rfl hds_X4_read ⟨Nat.le_of_ble_eq_true rfl, Nat.le_of_ble_eq_true rfl⟩) rfl rfl hl.1 rfl (lv_room (Nat.le_of_ble_eq_true rfl)) dX4_strike_88 ⟨Nat.le_of_ble_eq_true rfl, Nat.le_of_ble_eq_true rfl⟩) hS (fun H locs hP hD hS => ?_)
            have hP : va_P D vwCl (zWT cI cJ h (n, L) (kt, km, kl) (pt, pm, pl) (nu, le, ow, fo, run, wc, lc, tr, cl, (tm + time), (ms + 1)) (yl, yc, yt, co, pa, su, sc) mc ++ R) _ := hP
            have hD : va_D (zAb B) (zWT cI cJ h (n, L) (kt, km, kl) (pt, pm, pl) (nu, le, ow, fo, run, wc, lc, tr, cl, (tm + time), (ms + 1)) (yl, yc, yt, co, pa, su, sc) mc ++ R) := hD
            rw [show (zrd 5 mc (nI kk)) = (mc kk) from (zrd_in (n := 5) (k := kk) (f := mc) (by omega) (by omega))]
            refine lv_iconst (v := 1) hx hb dX4_strike_91 (by decide) ?_
            refine lv_iadd hx hb dX4_strike_92 ?_
            refine zcv (zrS (As := [.ref (h 20), .int (nI kk), .int ((mc kk) + 1)]) (rest := []) ⟨hx, hb, hml, hown, hts⟩ (zS hP hD hK hE hB hS) (c_X4_write (q0 := 20) rfl (by omega)) (va_cwS 3 hts gX4_strike_X4_write rfl rfl rfl hds_X4_write ⟨Nat.le_of_ble_eq_true rfl, Nat.le_of_ble_eq_true rfl⟩) rfl rfl hl.1 rfl (lv_room (Nat.le_of_ble_eq_true rfl)) dX4_strike_93 ⟨Nat.le_of_ble_eq_true rfl, Nat.le_of_ble_eq_true rfl⟩) hS (fun H locs hP hD hS => ?_)
            have hP : va_P D vwCl (zWT cI cJ h (n, L) (kt, km, kl) (pt, pm, pl) (nu, le, ow, fo, run, wc, lc, tr, cl, (tm + time), (ms + 1)) (yl, yc, yt, co, pa, su, sc) (zwr 5 mc (nI kk) ((mc kk) + 1)) ++ R) _ := hP
            have hD : va_D (zAb B) (zWT cI cJ h (n, L) (kt, km, kl) (pt, pm, pl) (nu, le, ow, fo, run, wc, lc, tr, cl, (tm + time), (ms + 1)) (yl, yc, yt, co, pa, su, sc) (zwr 5 mc (nI kk) ((mc kk) + 1)) ++ R) := hD
            rw [show (zwr 5 mc (nI kk) ((mc kk) + 1)) = (upd mc kk ((mc kk) + 1)) from (zwr_in (n := 5) (k := kk) (f := mc) (v := ((mc kk) + 1)) (by omega) (by omega))] at hP hD
            have hP : va_P D vwCl (zWT cI cJ h (n, L) (kt, km, kl) (pt, pm, pl) (nu, le, ow, fo, run, wc, lc, tr, cl, (tm + time), (ms + 1)) (yl, yc, yt, co, pa, su, sc) (upd mc kk ((mc kk) + 1)) ++ R) _ := hP
            have hD : va_D (zAb B) (zWT cI cJ h (n, L) (kt, km, kl) (pt, pm, pl) (nu, le, ow, fo, run, wc, lc, tr, cl, (tm + time), (ms + 1)) (yl, yc, yt, co, pa, su, sc) (upd mc kk ((mc kk) + 1)) ++ R) := hD
            refine lv_iload_n hx hb dX4_strike_96 rfl (lv_at hl 0 rfl) ?_
            refine lv_if_eq (tgt := 111) hx hb dX4_strike_97 (by decide) (fun c_6 => ?_) (fun c_6 => ?_)
            · skip
              have c_6 : kk = 0 := (nI_eq (a := kk) (b := 0) (by omega) (by omega)).mp c_6
              exfalso; first | omega | (revert c_6; decide) | (exact absurd rfl c_6) | simp_all
            · skip
              have c_6 : ¬ kk = 0 := fun hh => c_6 ((nI_eq (a := kk) (b := 0) (by omega) (by omega)).mpr hh)
              refine lv_aload_n hx hb dX4_strike_100 rfl (lv_at hl 1 rfl) ?_
              refine va_get (ci := 4) (v := .ref (h 11)) (C := RX4) (T := TX4) (N := 6) hx hb hts hinX4 hown hK hP 0 rfl rfl 3 (by decide) (hts (.fieldLink RX4 31 "TypingTutor" "current" "LTypingTutor$Lesson;") (List.mem_of_getElem? (i := 7) rfl)) (fun _ h9 => h9) rfl dX4_strike_101 ?_
              refine zci (zrV (As := []) (rest := []) ⟨hx, hb, hml, hown, hts⟩ (zV 11 hP hD hK hE hB hS rfl rfl) (c_X2_mistakesHere  ) (cwV 0 hts gX4_strike_X2_mistakesHere rfl rfl rfl hdv_X2_mistakesHere ⟨Nat.le_of_ble_eq_true rfl, Nat.le_of_ble_eq_true rfl⟩) rfl rfl hl.1 rfl (lv_room (Nat.le_of_ble_eq_true rfl)) dX4_strike_104 ⟨Nat.le_of_ble_eq_true rfl, Nat.le_of_ble_eq_true rfl⟩) hS (fun H locs hP hD hS => ?_)
              have hP : va_P D vwCl (zWT cI cJ h (n, L) (kt, km, kl) (pt, pm, pl) (nu, le, ow, fo, run, wc, lc, tr, cl, (tm + time), (ms + 1)) (yl, yc, yt, co, pa, su, sc) (upd mc kk ((mc kk) + 1)) ++ R) _ := hP
              have hD : va_D (zAb B) (zWT cI cJ h (n, L) (kt, km, kl) (pt, pm, pl) (nu, le, ow, fo, run, wc, lc, tr, cl, (tm + time), (ms + 1)) (yl, yc, yt, co, pa, su, sc) (upd mc kk ((mc kk) + 1)) ++ R) := hD
              refine lv_iconst (v := 2) hx hb dX4_strike_107 (by decide) ?_
              refine lv_icmp_lt (tgt := 116) hx hb dX4_strike_108 (by decide) (fun c_7 => ?_) (fun c_7 => ?_)
              · skip
                have c_7 : (ms + 1) < 2 := (nI_ltI (a := (ms + 1)) (b := 2) (by omega) (by omega)).mp c_7
                exfalso; first | omega | (revert c_7; decide) | (exact absurd rfl c_7) | simp_all
              · skip
                have c_7 : ¬ (ms + 1) < 2 := fun hh => c_7 ((nI_ltI (a := (ms + 1)) (b := 2) (by omega) (by omega)).mpr hh)
                refine lv_aload_n hx hb dX4_strike_111 rfl (lv_at hl 1 rfl) ?_
                refine lv_iload_n hx hb dX4_strike_112 rfl (lv_at hl 3 rfl) ?_
                refine zcv (zrV (As := [.int (nI time)]) (rest := []) ⟨hx, hb, hml, hown, hts⟩ (zV 0 hP hD hK hE hB hS rfl rfl) (c_X4_tryLetter (x := x) (o := o) (fin := fin) (hx9) (hx26) (ho) (hoy) (hf) (htr) (hlc) (hcl) (hco)) (cwV 1 hts gX4_strike_X4_tryLetter rfl rfl rfl hdv_X4_tryLetter ⟨Nat.le_of_ble_eq_true rfl, Nat.le_of_ble_eq_true rfl⟩) rfl rfl hl.1 rfl (lv_room (Nat.le_of_ble_eq_true rfl)) dX4_strike_113 ⟨Nat.le_of_ble_eq_true rfl, Nat.le_of_ble_eq_true rfl⟩) hS (fun H locs hP hD hS => ?_)
                have hP : va_P D vwCl (zWT cI cJ h (n, L) ((zkt kt x), (zkm (zc0 (ms + 1)) km x), (zkl (zc0 (ms + 1)) kl x (nI time))) ((zou o x pt (zkt pt)), (zou o x pm (zkm (zc0 (ms + 1)) pm)), (zou o x pl (fun p => zkl (zc0 (ms + 1)) pl p (nI time)))) (nu, le, ow, fo, (zsel fin false run), wc, lc, (tr + 1), (zsel (zc0 (ms + 1)) (cl + 1) cl), (tm + time), 0) ((zsel fin (upd yl co (nI lc)) yl), (zsel fin (upd yc co (nI (zsel (zc0 (ms + 1)) (cl + 1) cl))) yc), (zsel fin (upd yt co (nI (tm + time))) yt), (zsel fin (co + 1) co), (zsel fin (zpc pa lc (zsel (zc0 (ms + 1)) (cl + 1) cl)) pa), (zsel fin (su + lc) su), (zsel fin (sc + (zsel (zc0 (ms + 1)) (cl + 1) cl)) sc)) (upd mc kk ((mc kk) + 1)) ++ R) _ := hP
                have hD : va_D (zAb B) (zWT cI cJ h (n, L) ((zkt kt x), (zkm (zc0 (ms + 1)) km x), (zkl (zc0 (ms + 1)) kl x (nI time))) ((zou o x pt (zkt pt)), (zou o x pm (zkm (zc0 (ms + 1)) pm)), (zou o x pl (fun p => zkl (zc0 (ms + 1)) pl p (nI time)))) (nu, le, ow, fo, (zsel fin false run), wc, lc, (tr + 1), (zsel (zc0 (ms + 1)) (cl + 1) cl), (tm + time), 0) ((zsel fin (upd yl co (nI lc)) yl), (zsel fin (upd yc co (nI (zsel (zc0 (ms + 1)) (cl + 1) cl))) yc), (zsel fin (upd yt co (nI (tm + time))) yt), (zsel fin (co + 1) co), (zsel fin (zpc pa lc (zsel (zc0 (ms + 1)) (cl + 1) cl)) pa), (zsel fin (su + lc) su), (zsel fin (sc + (zsel (zc0 (ms + 1)) (cl + 1) cl)) sc)) (upd mc kk ((mc kk) + 1)) ++ R) := hD
                refine lv_iload_n hx hb dX4_strike_116 rfl (lv_at hl 0 rfl) ?_
                exact W.iret (v := (nI kk)) hx hb hr (fun t ht hW => ⟨⟨_, (), rfl, rfl, by rw [ht]; exact hP, hD⟩, hS.F ht⟩) hS.2.2 dX4_strike_117
        · skip
          have c_4 : run = false := zb_0 c_4
          exact absurd (c_4.symm.trans hrun) (by decide)
      · skip
        have c_3 : ¬ time ≤ 5000 := fun hh => c_3 ((nI_leI (a := time) (b := 5000) (by omega) (by omega)).mpr hh)
        omega
  · skip
    have c_1 := zq_0 c_1
    exact absurd h1 c_1

set_option maxHeartbeats 4000000 in
set_option maxRecDepth 100000 in
theorem c_X4_strike_x1 {l : Launch} {B kr kp : Nat} {D : va_G} {cI cJ cZ : ClassId} {h : Nat → Nat} {R : va_W} {n : Nat} {L : Nat → Int64} {kt : Nat → Int32} {km : Nat → Int32} {kl : Nat → Int32} {pt : Nat → Int32} {pm : Nat → Int32} {pl : Nat → Int32} {nu : Nat → Int32} {le : Nat → Int32} {ow : Nat → Int32} {fo : Nat → Int32} {run : Bool} {wc : Nat} {lc : Nat} {tr : Nat} {cl : Nat} {tm : Nat} {ms : Nat} {yl : Nat → Int32} {yc : Nat → Int32} {yt : Nat → Int32} {co : Nat} {pa : Int32} {su : Nat} {sc : Nat} {mc : Nat → Int32} {key : Int32} {time : Int32}   (hls : l.stackTraces = false) (h1 : ¬ (¬ key < 0 ∧ ¬ 26 ≤ key)) : vx_Met l yX4_strike wsX4_strike ({ frames := 6, cells := 1, slots := 6, locals := 82 }) (zPc B kr kp D (zTy cI cJ cZ) (zWT cI cJ h (n, L) (kt, km, kl) (pt, pm, pl) (nu, le, ow, fo, run, wc, lc, tr, cl, tm, ms) (yl, yc, yt, co, pa, su, sc) mc ++ R) [.ref (h 0), .int key, .int time]) (zQxi B D (zWT cI cJ h (n, L) (kt, km, kl) (pt, pm, pl) (nu, le, ow, fo, run, wc, lc, tr, cl, tm, ms) (yl, yc, yt, co, pa, su, sc) mc ++ R)) (zXC "java/lang/IndexOutOfBoundsException" B D (zWT cI cJ h (n, L) (kt, km, kl) (pt, pm, pl) (nu, le, ow, fo, run, wc, lc, tr, cl, tm, ms) (yl, yc, yt, co, pa, su, sc) mc ++ R)) 1 6 (zAb B) := by
  refine vx_ofW (cc := cX4_strike) (maxL := 4) (ret := (some .int)) (by decide) rfl ?_
  intro p e s m args below meth c s₁ B0 hml ht9 hv
  obtain ⟨rfl, hP, hD, hK, hE, hB⟩ := hv
  have hx := B0.exec
  have hb := B0.bytes
  have hr := B0.returns
  have hts := atoms_spec (ws := wsX4_strike) B0.pre
  have hown : s.vm.findClass RX4 = some m.cls := findClass_of_methodNamed B0.named
  have hlocks := B0.notSynchronized
  have hA : ∀ q : Nat, s.heap.size ≤ q → zAb B q := fun q hq => Nat.le_trans hB hq
  have hS : va_S (zAb B) s.heap s.heap [] := va_S.rf
  have hl := lv_entry ([.ref (h 0), .int key, .int time]) (n := 4) (Nat.le_of_ble_eq_true rfl)
  rw [lg_entry_eq]
  generalize (lg_sl ([.ref (h 0), .int key, .int time]) ++ List.replicate (4 - (lg_sl ([.ref (h 0), .int key, .int time])).length) Slot.unset).toArray = ls at hl ⊢
  have hl : lv_has ls 4 [(0, .ref (h 0)), (1, .int key), (2, .int time)] := hl
  have hP : va_P D vwCl (zWT cI cJ h (n, L) (kt, km, kl) (pt, pm, pl) (nu, le, ow, fo, run, wc, lc, tr, cl, tm, ms) (yl, yc, yt, co, pa, su, sc) mc ++ R) s.heap := hP
  have hD : va_D (zAb B) (zWT cI cJ h (n, L) (kt, km, kl) (pt, pm, pl) (nu, le, ow, fo, run, wc, lc, tr, cl, tm, ms) (yl, yc, yt, co, pa, su, sc) mc ++ R) := hD
  refine lv_iload_n hx hb dX4_strike_0 rfl (lv_at hl 1 rfl) ?_
  refine zci (zrS (As := [.int key]) (rest := []) ⟨hx, hb, hml, hown, hts⟩ (zS hP hD hK hE hB hS) (c_X4_isKey  ) (va_cwS 1 hts gX4_strike_X4_isKey rfl rfl rfl hds_X4_isKey ⟨Nat.le_of_ble_eq_true rfl, Nat.le_of_ble_eq_true rfl⟩) rfl rfl hl.1 rfl (lv_room (Nat.le_of_ble_eq_true rfl)) dX4_strike_1 ⟨Nat.le_of_ble_eq_true rfl, Nat.le_of_ble_eq_true rfl⟩) hS (fun H locs hP hD hS => ?_)
  have hP : va_P D vwCl (zWT cI cJ h (n, L) (kt, km, kl) (pt, pm, pl) (nu, le, ow, fo, run, wc, lc, tr, cl, tm, ms) (yl, yc, yt, co, pa, su, sc) mc ++ R) _ := hP
  have hD : va_D (zAb B) (zWT cI cJ h (n, L) (kt, km, kl) (pt, pm, pl) (nu, le, ow, fo, run, wc, lc, tr, cl, tm, ms) (yl, yc, yt, co, pa, su, sc) mc ++ R) := hD
  refine lv_if_ne (tgt := 17) hx hb dX4_strike_4 (by decide) (fun c_1 => ?_) (fun c_1 => ?_)
  · skip
    have c_1 := zq_n c_1
    exact absurd c_1 h1
  · skip
    have c_1 := zq_0 c_1
    exact zthrow hx hb hls hown hE hP hD hS (hl.1.trans hml.symm) ht9 hlocks (by decide +kernel) (List.mem_of_getElem? (i := 3) rfl) (by decide +kernel) (hts (.classLink RX4 81 "java/lang/IndexOutOfBoundsException") (List.mem_of_getElem? (i := 1) rfl)) (hts (.initialized "java/lang/IndexOutOfBoundsException") (List.mem_of_getElem? (i := 2) rfl)) (fun w h9 => hts w (List.mem_cons_of_mem _ (List.mem_append_left _ (List.mem_append_left _ (List.mem_append_right _ h9))))) (by decide +kernel) (by decide +kernel) dX4_strike_7 dX4_strike_10 dX4_strike_11 dX4_strike_13 dX4_strike_16 ⟨Nat.le_of_ble_eq_true rfl, Nat.le_of_ble_eq_true rfl, Nat.le_of_ble_eq_true rfl, Nat.le_of_ble_eq_true rfl⟩

set_option maxHeartbeats 4000000 in
set_option maxRecDepth 100000 in
theorem c_X4_strike_x2 {l : Launch} {B kr kp : Nat} {D : va_G} {cI cJ cZ : ClassId} {h : Nat → Nat} {R : va_W} {n : Nat} {L : Nat → Int64} {kt : Nat → Int32} {km : Nat → Int32} {kl : Nat → Int32} {pt : Nat → Int32} {pm : Nat → Int32} {pl : Nat → Int32} {nu : Nat → Int32} {le : Nat → Int32} {ow : Nat → Int32} {fo : Nat → Int32} {run : Bool} {wc : Nat} {lc : Nat} {tr : Nat} {cl : Nat} {tm : Nat} {ms : Nat} {yl : Nat → Int32} {yc : Nat → Int32} {yt : Nat → Int32} {co : Nat} {pa : Int32} {su : Nat} {sc : Nat} {mc : Nat → Int32} {key : Int32} {time : Int32}   (hls : l.stackTraces = false) (h1 : ¬ key < 0 ∧ ¬ 26 ≤ key) (ht9x : time < 1 ∨ ¬ time ≤ 5000) : vx_Met l yX4_strike wsX4_strike ({ frames := 6, cells := 1, slots := 6, locals := 82 }) (zPc B kr kp D (zTy cI cJ cZ) (zWT cI cJ h (n, L) (kt, km, kl) (pt, pm, pl) (nu, le, ow, fo, run, wc, lc, tr, cl, tm, ms) (yl, yc, yt, co, pa, su, sc) mc ++ R) [.ref (h 0), .int key, .int time]) (zQxi B D (zWT cI cJ h (n, L) (kt, km, kl) (pt, pm, pl) (nu, le, ow, fo, run, wc, lc, tr, cl, tm, ms) (yl, yc, yt, co, pa, su, sc) mc ++ R)) (zXC "java/lang/IllegalArgumentException" B D (zWT cI cJ h (n, L) (kt, km, kl) (pt, pm, pl) (nu, le, ow, fo, run, wc, lc, tr, cl, tm, ms) (yl, yc, yt, co, pa, su, sc) mc ++ R)) 1 6 (zAb B) := by
  refine vx_ofW (cc := cX4_strike) (maxL := 4) (ret := (some .int)) (by decide) rfl ?_
  intro p e s m args below meth c s₁ B0 hml ht9 hv
  obtain ⟨rfl, hP, hD, hK, hE, hB⟩ := hv
  have hx := B0.exec
  have hb := B0.bytes
  have hr := B0.returns
  have hts := atoms_spec (ws := wsX4_strike) B0.pre
  have hown : s.vm.findClass RX4 = some m.cls := findClass_of_methodNamed B0.named
  have hlocks := B0.notSynchronized
  have hA : ∀ q : Nat, s.heap.size ≤ q → zAb B q := fun q hq => Nat.le_trans hB hq
  have hS : va_S (zAb B) s.heap s.heap [] := va_S.rf
  have hl := lv_entry ([.ref (h 0), .int key, .int time]) (n := 4) (Nat.le_of_ble_eq_true rfl)
  rw [lg_entry_eq]
  generalize (lg_sl ([.ref (h 0), .int key, .int time]) ++ List.replicate (4 - (lg_sl ([.ref (h 0), .int key, .int time])).length) Slot.unset).toArray = ls at hl ⊢
  have hl : lv_has ls 4 [(0, .ref (h 0)), (1, .int key), (2, .int time)] := hl
  have hP : va_P D vwCl (zWT cI cJ h (n, L) (kt, km, kl) (pt, pm, pl) (nu, le, ow, fo, run, wc, lc, tr, cl, tm, ms) (yl, yc, yt, co, pa, su, sc) mc ++ R) s.heap := hP
  have hD : va_D (zAb B) (zWT cI cJ h (n, L) (kt, km, kl) (pt, pm, pl) (nu, le, ow, fo, run, wc, lc, tr, cl, tm, ms) (yl, yc, yt, co, pa, su, sc) mc ++ R) := hD
  refine lv_iload_n hx hb dX4_strike_0 rfl (lv_at hl 1 rfl) ?_
  refine zci (zrS (As := [.int key]) (rest := []) ⟨hx, hb, hml, hown, hts⟩ (zS hP hD hK hE hB hS) (c_X4_isKey  ) (va_cwS 1 hts gX4_strike_X4_isKey rfl rfl rfl hds_X4_isKey ⟨Nat.le_of_ble_eq_true rfl, Nat.le_of_ble_eq_true rfl⟩) rfl rfl hl.1 rfl (lv_room (Nat.le_of_ble_eq_true rfl)) dX4_strike_1 ⟨Nat.le_of_ble_eq_true rfl, Nat.le_of_ble_eq_true rfl⟩) hS (fun H locs hP hD hS => ?_)
  have hP : va_P D vwCl (zWT cI cJ h (n, L) (kt, km, kl) (pt, pm, pl) (nu, le, ow, fo, run, wc, lc, tr, cl, tm, ms) (yl, yc, yt, co, pa, su, sc) mc ++ R) _ := hP
  have hD : va_D (zAb B) (zWT cI cJ h (n, L) (kt, km, kl) (pt, pm, pl) (nu, le, ow, fo, run, wc, lc, tr, cl, tm, ms) (yl, yc, yt, co, pa, su, sc) mc ++ R) := hD
  refine lv_if_ne (tgt := 17) hx hb dX4_strike_4 (by decide) (fun c_1 => ?_) (fun c_1 => ?_)
  · skip
    have c_1 := zq_n c_1
    refine lv_iload_n hx hb dX4_strike_17 rfl (lv_at hl 2 rfl) ?_
    refine lv_iconst (v := 1) hx hb dX4_strike_18 (by decide) ?_
    refine lv_icmp_lt (tgt := 29) hx hb dX4_strike_19 (by decide) (fun c_2 => ?_) (fun c_2 => ?_)
    · skip
      exact zthrow hx hb hls hown hE hP hD hS (hl.1.trans hml.symm) ht9 hlocks (by decide +kernel) (List.mem_of_getElem? (i := 9) rfl) (by decide +kernel) (hts (.classLink RX4 50 "java/lang/IllegalArgumentException") (List.mem_of_getElem? (i := 3) rfl)) (hts (.initialized "java/lang/IllegalArgumentException") (List.mem_of_getElem? (i := 4) rfl)) (fun w h9 => hts w (List.mem_cons_of_mem _ (List.mem_append_left _ (List.mem_append_right _ h9)))) (by decide +kernel) (by decide +kernel) dX4_strike_29 dX4_strike_32 dX4_strike_33 dX4_strike_35 dX4_strike_38 ⟨Nat.le_of_ble_eq_true rfl, Nat.le_of_ble_eq_true rfl, Nat.le_of_ble_eq_true rfl, Nat.le_of_ble_eq_true rfl⟩
    · skip
      refine lv_iload_n hx hb dX4_strike_22 rfl (lv_at hl 2 rfl) ?_
      refine lv_sipush (v := 5000) hx hb dX4_strike_23 (by decide) ?_
      refine lv_icmp_le (tgt := 39) hx hb dX4_strike_26 (by decide) (fun c_3 => ?_) (fun c_3 => ?_)
      · skip
        exact ht9x.elim (fun q => absurd q c_2) (fun q => absurd c_3 q)
      · skip
        exact zthrow hx hb hls hown hE hP hD hS (hl.1.trans hml.symm) ht9 hlocks (by decide +kernel) (List.mem_of_getElem? (i := 9) rfl) (by decide +kernel) (hts (.classLink RX4 50 "java/lang/IllegalArgumentException") (List.mem_of_getElem? (i := 3) rfl)) (hts (.initialized "java/lang/IllegalArgumentException") (List.mem_of_getElem? (i := 4) rfl)) (fun w h9 => hts w (List.mem_cons_of_mem _ (List.mem_append_left _ (List.mem_append_right _ h9)))) (by decide +kernel) (by decide +kernel) dX4_strike_29 dX4_strike_32 dX4_strike_33 dX4_strike_35 dX4_strike_38 ⟨Nat.le_of_ble_eq_true rfl, Nat.le_of_ble_eq_true rfl, Nat.le_of_ble_eq_true rfl, Nat.le_of_ble_eq_true rfl⟩
  · skip
    have c_1 := zq_0 c_1
    exact absurd h1 c_1

set_option maxHeartbeats 4000000 in
set_option maxRecDepth 100000 in
theorem c_X4_strike_x3 {l : Launch} {B kr kp : Nat} {D : va_G} {cI cJ cZ : ClassId} {h : Nat → Nat} {R : va_W} {n : Nat} {L : Nat → Int64} {kt : Nat → Int32} {km : Nat → Int32} {kl : Nat → Int32} {pt : Nat → Int32} {pm : Nat → Int32} {pl : Nat → Int32} {nu : Nat → Int32} {le : Nat → Int32} {ow : Nat → Int32} {fo : Nat → Int32} {run : Bool} {wc : Nat} {lc : Nat} {tr : Nat} {cl : Nat} {tm : Nat} {ms : Nat} {yl : Nat → Int32} {yc : Nat → Int32} {yt : Nat → Int32} {co : Nat} {pa : Int32} {su : Nat} {sc : Nat} {mc : Nat → Int32} {key : Int32} {time : Int32}   (hls : l.stackTraces = false) (h1 : ¬ key < 0 ∧ ¬ 26 ≤ key) (ht1 : ¬ time < 1) (ht2 : time ≤ 5000) (hrun : run = false) : vx_Met l yX4_strike wsX4_strike ({ frames := 6, cells := 1, slots := 6, locals := 82 }) (zPc B kr kp D (zTy cI cJ cZ) (zWT cI cJ h (n, L) (kt, km, kl) (pt, pm, pl) (nu, le, ow, fo, run, wc, lc, tr, cl, tm, ms) (yl, yc, yt, co, pa, su, sc) mc ++ R) [.ref (h 0), .int key, .int time]) (zQxi B D (zWT cI cJ h (n, L) (kt, km, kl) (pt, pm, pl) (nu, le, ow, fo, run, wc, lc, tr, cl, tm, ms) (yl, yc, yt, co, pa, su, sc) mc ++ R)) (zXC "java/lang/IllegalStateException" B D (zWT cI cJ h (n, L) (kt, km, kl) (pt, pm, pl) (nu, le, ow, fo, run, wc, lc, tr, cl, tm, ms) (yl, yc, yt, co, pa, su, sc) mc ++ R)) 1 6 (zAb B) := by
  refine vx_ofW (cc := cX4_strike) (maxL := 4) (ret := (some .int)) (by decide) rfl ?_
  intro p e s m args below meth c s₁ B0 hml ht9 hv
  obtain ⟨rfl, hP, hD, hK, hE, hB⟩ := hv
  have hx := B0.exec
  have hb := B0.bytes
  have hr := B0.returns
  have hts := atoms_spec (ws := wsX4_strike) B0.pre
  have hown : s.vm.findClass RX4 = some m.cls := findClass_of_methodNamed B0.named
  have hlocks := B0.notSynchronized
  have hA : ∀ q : Nat, s.heap.size ≤ q → zAb B q := fun q hq => Nat.le_trans hB hq
  have hS : va_S (zAb B) s.heap s.heap [] := va_S.rf
  have hl := lv_entry ([.ref (h 0), .int key, .int time]) (n := 4) (Nat.le_of_ble_eq_true rfl)
  rw [lg_entry_eq]
  generalize (lg_sl ([.ref (h 0), .int key, .int time]) ++ List.replicate (4 - (lg_sl ([.ref (h 0), .int key, .int time])).length) Slot.unset).toArray = ls at hl ⊢
  have hl : lv_has ls 4 [(0, .ref (h 0)), (1, .int key), (2, .int time)] := hl
  have hinX4 : ∀ w ∈ wsX40, w ∈ wsX4_strike := fun _ h => List.mem_cons_of_mem _ (List.mem_append_left _ (List.mem_append_left _ (List.mem_append_left _ (List.mem_append_left _ (List.mem_append_left _ (List.mem_append_left _ (List.mem_append_right _ h)))))))
  have hP : va_P D vwCl (zWT cI cJ h (n, L) (kt, km, kl) (pt, pm, pl) (nu, le, ow, fo, run, wc, lc, tr, cl, tm, ms) (yl, yc, yt, co, pa, su, sc) mc ++ R) s.heap := hP
  have hD : va_D (zAb B) (zWT cI cJ h (n, L) (kt, km, kl) (pt, pm, pl) (nu, le, ow, fo, run, wc, lc, tr, cl, tm, ms) (yl, yc, yt, co, pa, su, sc) mc ++ R) := hD
  refine lv_iload_n hx hb dX4_strike_0 rfl (lv_at hl 1 rfl) ?_
  refine zci (zrS (As := [.int key]) (rest := []) ⟨hx, hb, hml, hown, hts⟩ (zS hP hD hK hE hB hS) (c_X4_isKey  ) (va_cwS 1 hts gX4_strike_X4_isKey rfl rfl rfl hds_X4_isKey ⟨Nat.le_of_ble_eq_true rfl, Nat.le_of_ble_eq_true rfl⟩) rfl rfl hl.1 rfl (lv_room (Nat.le_of_ble_eq_true rfl)) dX4_strike_1 ⟨Nat.le_of_ble_eq_true rfl, Nat.le_of_ble_eq_true rfl⟩) hS (fun H locs hP hD hS => ?_)
  have hP : va_P D vwCl (zWT cI cJ h (n, L) (kt, km, kl) (pt, pm, pl) (nu, le, ow, fo, run, wc, lc, tr, cl, tm, ms) (yl, yc, yt, co, pa, su, sc) mc ++ R) _ := hP
  have hD : va_D (zAb B) (zWT cI cJ h (n, L) (kt, km, kl) (pt, pm, pl) (nu, le, ow, fo, run, wc, lc, tr, cl, tm, ms) (yl, yc, yt, co, pa, su, sc) mc ++ R) := hD
  refine lv_if_ne (tgt := 17) hx hb dX4_strike_4 (by decide) (fun c_1 => ?_) (fun c_1 => ?_)
  · skip
    have c_1 := zq_n c_1
    refine lv_iload_n hx hb dX4_strike_17 rfl (lv_at hl 2 rfl) ?_
    refine lv_iconst (v := 1) hx hb dX4_strike_18 (by decide) ?_
    refine lv_icmp_lt (tgt := 29) hx hb dX4_strike_19 (by decide) (fun c_2 => ?_) (fun c_2 => ?_)
    · skip
      exact absurd c_2 ht1
    · skip
      refine lv_iload_n hx hb dX4_strike_22 rfl (lv_at hl 2 rfl) ?_
      refine lv_sipush (v := 5000) hx hb dX4_strike_23 (by decide) ?_
      refine lv_icmp_le (tgt := 39) hx hb dX4_strike_26 (by decide) (fun c_3 => ?_) (fun c_3 => ?_)
      · skip
        refine lv_aload_n hx hb dX4_strike_39 rfl (lv_at hl 0 rfl) ?_
        refine va_get (ci := 4) (v := .ref (h 11)) (C := RX4) (T := TX4) (N := 6) hx hb hts hinX4 hown hK hP 0 rfl rfl 3 (by decide) (hts (.fieldLink RX4 31 "TypingTutor" "current" "LTypingTutor$Lesson;") (List.mem_of_getElem? (i := 7) rfl)) (fun _ h9 => h9) rfl dX4_strike_40 ?_
        refine zci (zrV (As := []) (rest := []) ⟨hx, hb, hml, hown, hts⟩ (zV 11 hP hD hK hE hB hS rfl rfl) (c_X2_isRunning  ) (cwV 0 hts gX4_strike_X2_isRunning rfl rfl rfl hdv_X2_isRunning ⟨Nat.le_of_ble_eq_true rfl, Nat.le_of_ble_eq_true rfl⟩) rfl rfl hl.1 rfl (lv_room (Nat.le_of_ble_eq_true rfl)) dX4_strike_43 ⟨Nat.le_of_ble_eq_true rfl, Nat.le_of_ble_eq_true rfl⟩) hS (fun H locs hP hD hS => ?_)
        have hP : va_P D vwCl (zWT cI cJ h (n, L) (kt, km, kl) (pt, pm, pl) (nu, le, ow, fo, run, wc, lc, tr, cl, tm, ms) (yl, yc, yt, co, pa, su, sc) mc ++ R) _ := hP
        have hD : va_D (zAb B) (zWT cI cJ h (n, L) (kt, km, kl) (pt, pm, pl) (nu, le, ow, fo, run, wc, lc, tr, cl, tm, ms) (yl, yc, yt, co, pa, su, sc) mc ++ R) := hD
        refine lv_if_ne (tgt := 59) hx hb dX4_strike_46 (by decide) (fun c_4 => ?_) (fun c_4 => ?_)
        · skip
          have c_4 : run = true := zb_n c_4
          exact absurd (c_4.symm.trans hrun) (by decide)
        · skip
          have c_4 : run = false := zb_0 c_4
          exact zthrow hx hb hls hown hE hP hD hS (hl.1.trans hml.symm) ht9 hlocks (by decide +kernel) (List.mem_of_getElem? (i := 7) rfl) (by decide +kernel) (hts (.classLink RX4 64 "java/lang/IllegalStateException") (List.mem_of_getElem? (i := 5) rfl)) (hts (.initialized "java/lang/IllegalStateException") (List.mem_of_getElem? (i := 6) rfl)) (fun w h9 => hts w (List.mem_cons_of_mem _ (List.mem_append_right _ h9))) (by decide +kernel) (by decide +kernel) dX4_strike_49 dX4_strike_52 dX4_strike_53 dX4_strike_55 dX4_strike_58 ⟨Nat.le_of_ble_eq_true rfl, Nat.le_of_ble_eq_true rfl, Nat.le_of_ble_eq_true rfl, Nat.le_of_ble_eq_true rfl⟩
      · skip
        exact absurd ht2 c_3
  · skip
    have c_1 := zq_0 c_1
    exact absurd h1 c_1

set_option maxHeartbeats 4000000 in
set_option maxRecDepth 100000 in
theorem c_X4_addWord {l : Launch} {B kr kp : Nat} {D : va_G} {cI cJ cZ : ClassId} {h : Nat → Nat} {R : va_W} {n : Nat} {L : Nat → Int64} {kt : Nat → Int32} {km : Nat → Int32} {kl : Nat → Int32} {pt : Nat → Int32} {pm : Nat → Int32} {pl : Nat → Int32} {nu : Nat → Int32} {le : Nat → Int32} {ow : Nat → Int32} {fo : Nat → Int32} {run : Bool} {wc : Nat} {lc : Nat} {tr : Nat} {cl : Nat} {tm : Nat} {ms : Nat} {yl : Nat → Int32} {yc : Nat → Int32} {yt : Nat → Int32} {co : Nat} {pa : Int32} {su : Nat} {sc : Nat} {mc : Nat → Int32} {w : Int64}   (hz : zok w = true) (hn : n < 40) (hh9 : zhd L w n = false) : Met l yX4_addWord wsX4_addWord ({ frames := 2, cells := 0, slots := 0, locals := 44 }) (zPc B kr kp D (zTy cI cJ cZ) (zWT cI cJ h (n, L) (kt, km, kl) (pt, pm, pl) (nu, le, ow, fo, run, wc, lc, tr, cl, tm, ms) (yl, yc, yt, co, pa, su, sc) mc ++ R) [.ref (h 0), .long w]) (zQi B D (zWT cI cJ h ((n + 1), (vp_updL L n w)) (kt, km, kl) (pt, pm, pl) (nu, le, ow, fo, run, wc, lc, tr, cl, tm, ms) (yl, yc, yt, co, pa, su, sc) mc ++ R) (nI n)) 0 0 (zAb B) := by
  refine Met.ofW (cc := cX4_addWord) (maxL := 3) (ret := (some .int)) (by decide) rfl ?_
  intro p e s m args below meth c s₁ B0 hml hv
  obtain ⟨rfl, hP, hD, hK, hE, hB⟩ := hv
  have hx := B0.exec
  have hb := B0.bytes
  have hr := B0.returns
  have hts := atoms_spec (ws := wsX4_addWord) B0.pre
  have hown : s.vm.findClass RX4 = some m.cls := findClass_of_methodNamed B0.named
  have hlocks := B0.notSynchronized
  have hA : ∀ q : Nat, s.heap.size ≤ q → zAb B q := fun q hq => Nat.le_trans hB hq
  have hS : va_S (zAb B) s.heap s.heap [] := va_S.rf
  have hl := lv_entry ([.ref (h 0), .long w]) (n := 3) (Nat.le_of_ble_eq_true rfl)
  rw [lg_entry_eq]
  generalize (lg_sl ([.ref (h 0), .long w]) ++ List.replicate (3 - (lg_sl ([.ref (h 0), .long w])).length) Slot.unset).toArray = ls at hl ⊢
  have hl : lv_has ls 3 [(0, .ref (h 0)), (1, .long w)] := hl
  have hinX4 : ∀ w ∈ wsX40, w ∈ wsX4_addWord := fun _ h => List.mem_cons_of_mem _ (List.mem_append_left _ (List.mem_append_left _ (List.mem_append_left _ (List.mem_append_right _ h))))
  have hP : va_P D vwCl (zWT cI cJ h (n, L) (kt, km, kl) (pt, pm, pl) (nu, le, ow, fo, run, wc, lc, tr, cl, tm, ms) (yl, yc, yt, co, pa, su, sc) mc ++ R) s.heap := hP
  have hD : va_D (zAb B) (zWT cI cJ h (n, L) (kt, km, kl) (pt, pm, pl) (nu, le, ow, fo, run, wc, lc, tr, cl, tm, ms) (yl, yc, yt, co, pa, su, sc) mc ++ R) := hD
  refine lv_lload_n hx hb dX4_addWord_0 rfl (lv_at hl 1 rfl) ?_
  refine zci (zrS (As := [.long w]) (rest := []) ⟨hx, hb, hml, hown, hts⟩ (zS hP hD hK hE hB hS) (c_X4_tellsWord  ) (va_cwS 1 hts gX4_addWord_X4_tellsWord rfl rfl rfl hds_X4_tellsWord ⟨Nat.le_of_ble_eq_true rfl, Nat.le_of_ble_eq_true rfl⟩) rfl rfl hl.1 rfl (lv_room (Nat.le_of_ble_eq_true rfl)) dX4_addWord_1 ⟨Nat.le_of_ble_eq_true rfl, Nat.le_of_ble_eq_true rfl⟩) hS (fun H locs hP hD hS => ?_)
  have hP : va_P D vwCl (zWT cI cJ h (n, L) (kt, km, kl) (pt, pm, pl) (nu, le, ow, fo, run, wc, lc, tr, cl, tm, ms) (yl, yc, yt, co, pa, su, sc) mc ++ R) _ := hP
  have hD : va_D (zAb B) (zWT cI cJ h (n, L) (kt, km, kl) (pt, pm, pl) (nu, le, ow, fo, run, wc, lc, tr, cl, tm, ms) (yl, yc, yt, co, pa, su, sc) mc ++ R) := hD
  refine lv_if_ne (tgt := 17) hx hb dX4_addWord_4 (by decide) (fun c_1 => ?_) (fun c_1 => ?_)
  · skip
    have c_1 : (zok w) = true := zb_n c_1
    refine lv_aload_n hx hb dX4_addWord_17 rfl (lv_at hl 0 rfl) ?_
    refine va_get (ci := 4) (v := .ref (h 1)) (C := RX4) (T := TX4) (N := 6) hx hb hts hinX4 hown hK hP 0 rfl rfl 0 (by decide) (hts (.fieldLink RX4 12 "TypingTutor" "list" "LTypingTutor$WordList;") (List.mem_of_getElem? (i := 5) rfl)) (fun _ h9 => h9) rfl dX4_addWord_18 ?_
    refine zci (zrV (As := []) (rest := []) ⟨hx, hb, hml, hown, hts⟩ (zV 1 hP hD hK hE hB hS rfl rfl) (c_X3_isFull  (by omega)) (cwV 0 hts gX4_addWord_X3_isFull rfl rfl rfl hdv_X3_isFull ⟨Nat.le_of_ble_eq_true rfl, Nat.le_of_ble_eq_true rfl⟩) rfl rfl hl.1 rfl (lv_room (Nat.le_of_ble_eq_true rfl)) dX4_addWord_21 ⟨Nat.le_of_ble_eq_true rfl, Nat.le_of_ble_eq_true rfl⟩) hS (fun H locs hP hD hS => ?_)
    have hP : va_P D vwCl (zWT cI cJ h (n, L) (kt, km, kl) (pt, pm, pl) (nu, le, ow, fo, run, wc, lc, tr, cl, tm, ms) (yl, yc, yt, co, pa, su, sc) mc ++ R) _ := hP
    have hD : va_D (zAb B) (zWT cI cJ h (n, L) (kt, km, kl) (pt, pm, pl) (nu, le, ow, fo, run, wc, lc, tr, cl, tm, ms) (yl, yc, yt, co, pa, su, sc) mc ++ R) := hD
    refine lv_if_ne (tgt := 38) hx hb dX4_addWord_24 (by decide) (fun c_2 => ?_) (fun c_2 => ?_)
    · skip
      have c_2 := zq_n c_2
      exfalso; first | omega | (revert c_2; decide) | (exact absurd rfl c_2) | simp_all
    · skip
      have c_2 := zq_0 c_2
      refine lv_aload_n hx hb dX4_addWord_27 rfl (lv_at hl 0 rfl) ?_
      refine va_get (ci := 4) (v := .ref (h 1)) (C := RX4) (T := TX4) (N := 6) hx hb hts hinX4 hown hK hP 0 rfl rfl 0 (by decide) (hts (.fieldLink RX4 12 "TypingTutor" "list" "LTypingTutor$WordList;") (List.mem_of_getElem? (i := 5) rfl)) (fun _ h9 => h9) rfl dX4_addWord_28 ?_
      refine lv_lload_n hx hb dX4_addWord_31 rfl (lv_at hl 1 rfl) ?_
      refine zci (zrV (As := [.long w]) (rest := []) ⟨hx, hb, hml, hown, hts⟩ (zV 1 hP hD hK hE hB hS rfl rfl) (c_X3_holds  (by omega)) (cwV 1 hts gX4_addWord_X3_holds rfl rfl rfl hdv_X3_holds ⟨Nat.le_of_ble_eq_true rfl, Nat.le_of_ble_eq_true rfl⟩) rfl rfl hl.1 rfl (lv_room (Nat.le_of_ble_eq_true rfl)) dX4_addWord_32 ⟨Nat.le_of_ble_eq_true rfl, Nat.le_of_ble_eq_true rfl⟩) hS (fun H locs hP hD hS => ?_)
      have hP : va_P D vwCl (zWT cI cJ h (n, L) (kt, km, kl) (pt, pm, pl) (nu, le, ow, fo, run, wc, lc, tr, cl, tm, ms) (yl, yc, yt, co, pa, su, sc) mc ++ R) _ := hP
      have hD : va_D (zAb B) (zWT cI cJ h (n, L) (kt, km, kl) (pt, pm, pl) (nu, le, ow, fo, run, wc, lc, tr, cl, tm, ms) (yl, yc, yt, co, pa, su, sc) mc ++ R) := hD
      refine lv_if_eq (tgt := 48) hx hb dX4_addWord_35 (by decide) (fun c_3 => ?_) (fun c_3 => ?_)
      · skip
        have c_3 : (zhd L w n) = false := zb_0 c_3
        refine lv_aload_n hx hb dX4_addWord_48 rfl (lv_at hl 0 rfl) ?_
        refine va_get (ci := 4) (v := .ref (h 1)) (C := RX4) (T := TX4) (N := 6) hx hb hts hinX4 hown hK hP 0 rfl rfl 0 (by decide) (hts (.fieldLink RX4 12 "TypingTutor" "list" "LTypingTutor$WordList;") (List.mem_of_getElem? (i := 5) rfl)) (fun _ h9 => h9) rfl dX4_addWord_49 ?_
        refine lv_lload_n hx hb dX4_addWord_52 rfl (lv_at hl 1 rfl) ?_
        refine zci (zrV (As := [.long w]) (rest := []) ⟨hx, hb, hml, hown, hts⟩ (zV 1 hP hD hK hE hB hS rfl rfl) (c_X3_append  (by omega)) (cwV 1 hts gX4_addWord_X3_append rfl rfl rfl hdv_X3_append ⟨Nat.le_of_ble_eq_true rfl, Nat.le_of_ble_eq_true rfl⟩) rfl rfl hl.1 rfl (lv_room (Nat.le_of_ble_eq_true rfl)) dX4_addWord_53 ⟨Nat.le_of_ble_eq_true rfl, Nat.le_of_ble_eq_true rfl⟩) hS (fun H locs hP hD hS => ?_)
        have hP : va_P D vwCl (zWT cI cJ h ((n + 1), (vp_updL L n w)) (kt, km, kl) (pt, pm, pl) (nu, le, ow, fo, run, wc, lc, tr, cl, tm, ms) (yl, yc, yt, co, pa, su, sc) mc ++ R) _ := hP
        have hD : va_D (zAb B) (zWT cI cJ h ((n + 1), (vp_updL L n w)) (kt, km, kl) (pt, pm, pl) (nu, le, ow, fo, run, wc, lc, tr, cl, tm, ms) (yl, yc, yt, co, pa, su, sc) mc ++ R) := hD
        exact W.iret (v := (nI n)) hx hb hr (fun t ht hW => ⟨⟨_, (), rfl, rfl, by rw [ht]; exact hP, hD⟩, hS.F ht⟩) hS.2.2 dX4_addWord_56
      · skip
        have c_3 : (zhd L w n) = true := zb_n c_3
        exact absurd (c_3.symm.trans hh9) (by decide)
  · skip
    have c_1 : (zok w) = false := zb_0 c_1
    exact absurd (c_1.symm.trans hz) (by decide)

set_option maxHeartbeats 4000000 in
set_option maxRecDepth 100000 in
theorem c_X4_addWord_x1 {l : Launch} {B kr kp : Nat} {D : va_G} {cI cJ cZ : ClassId} {h : Nat → Nat} {R : va_W} {n : Nat} {L : Nat → Int64} {kt : Nat → Int32} {km : Nat → Int32} {kl : Nat → Int32} {pt : Nat → Int32} {pm : Nat → Int32} {pl : Nat → Int32} {nu : Nat → Int32} {le : Nat → Int32} {ow : Nat → Int32} {fo : Nat → Int32} {run : Bool} {wc : Nat} {lc : Nat} {tr : Nat} {cl : Nat} {tm : Nat} {ms : Nat} {yl : Nat → Int32} {yc : Nat → Int32} {yt : Nat → Int32} {co : Nat} {pa : Int32} {su : Nat} {sc : Nat} {mc : Nat → Int32} {w : Int64}   (hls : l.stackTraces = false) (hz : zok w = false) : vx_Met l yX4_addWord wsX4_addWord ({ frames := 6, cells := 1, slots := 6, locals := 82 }) (zPc B kr kp D (zTy cI cJ cZ) (zWT cI cJ h (n, L) (kt, km, kl) (pt, pm, pl) (nu, le, ow, fo, run, wc, lc, tr, cl, tm, ms) (yl, yc, yt, co, pa, su, sc) mc ++ R) [.ref (h 0), .long w]) (zQxi B D (zWT cI cJ h (n, L) (kt, km, kl) (pt, pm, pl) (nu, le, ow, fo, run, wc, lc, tr, cl, tm, ms) (yl, yc, yt, co, pa, su, sc) mc ++ R)) (zXC "java/lang/IllegalArgumentException" B D (zWT cI cJ h (n, L) (kt, km, kl) (pt, pm, pl) (nu, le, ow, fo, run, wc, lc, tr, cl, tm, ms) (yl, yc, yt, co, pa, su, sc) mc ++ R)) 1 6 (zAb B) := by
  refine vx_ofW (cc := cX4_addWord) (maxL := 3) (ret := (some .int)) (by decide) rfl ?_
  intro p e s m args below meth c s₁ B0 hml ht9 hv
  obtain ⟨rfl, hP, hD, hK, hE, hB⟩ := hv
  have hx := B0.exec
  have hb := B0.bytes
  have hr := B0.returns
  have hts := atoms_spec (ws := wsX4_addWord) B0.pre
  have hown : s.vm.findClass RX4 = some m.cls := findClass_of_methodNamed B0.named
  have hlocks := B0.notSynchronized
  have hA : ∀ q : Nat, s.heap.size ≤ q → zAb B q := fun q hq => Nat.le_trans hB hq
  have hS : va_S (zAb B) s.heap s.heap [] := va_S.rf
  have hl := lv_entry ([.ref (h 0), .long w]) (n := 3) (Nat.le_of_ble_eq_true rfl)
  rw [lg_entry_eq]
  generalize (lg_sl ([.ref (h 0), .long w]) ++ List.replicate (3 - (lg_sl ([.ref (h 0), .long w])).length) Slot.unset).toArray = ls at hl ⊢
  have hl : lv_has ls 3 [(0, .ref (h 0)), (1, .long w)] := hl
  have hP : va_P D vwCl (zWT cI cJ h (n, L) (kt, km, kl) (pt, pm, pl) (nu, le, ow, fo, run, wc, lc, tr, cl, tm, ms) (yl, yc, yt, co, pa, su, sc) mc ++ R) s.heap := hP
  have hD : va_D (zAb B) (zWT cI cJ h (n, L) (kt, km, kl) (pt, pm, pl) (nu, le, ow, fo, run, wc, lc, tr, cl, tm, ms) (yl, yc, yt, co, pa, su, sc) mc ++ R) := hD
  refine lv_lload_n hx hb dX4_addWord_0 rfl (lv_at hl 1 rfl) ?_
  refine zci (zrS (As := [.long w]) (rest := []) ⟨hx, hb, hml, hown, hts⟩ (zS hP hD hK hE hB hS) (c_X4_tellsWord  ) (va_cwS 1 hts gX4_addWord_X4_tellsWord rfl rfl rfl hds_X4_tellsWord ⟨Nat.le_of_ble_eq_true rfl, Nat.le_of_ble_eq_true rfl⟩) rfl rfl hl.1 rfl (lv_room (Nat.le_of_ble_eq_true rfl)) dX4_addWord_1 ⟨Nat.le_of_ble_eq_true rfl, Nat.le_of_ble_eq_true rfl⟩) hS (fun H locs hP hD hS => ?_)
  have hP : va_P D vwCl (zWT cI cJ h (n, L) (kt, km, kl) (pt, pm, pl) (nu, le, ow, fo, run, wc, lc, tr, cl, tm, ms) (yl, yc, yt, co, pa, su, sc) mc ++ R) _ := hP
  have hD : va_D (zAb B) (zWT cI cJ h (n, L) (kt, km, kl) (pt, pm, pl) (nu, le, ow, fo, run, wc, lc, tr, cl, tm, ms) (yl, yc, yt, co, pa, su, sc) mc ++ R) := hD
  refine lv_if_ne (tgt := 17) hx hb dX4_addWord_4 (by decide) (fun c_1 => ?_) (fun c_1 => ?_)
  · skip
    have c_1 : (zok w) = true := zb_n c_1
    exact absurd (c_1.symm.trans hz) (by decide)
  · skip
    have c_1 : (zok w) = false := zb_0 c_1
    exact zthrow hx hb hls hown hE hP hD hS (hl.1.trans hml.symm) ht9 hlocks (by decide +kernel) (List.mem_of_getElem? (i := 0) rfl) (by decide +kernel) (hts (.classLink RX4 50 "java/lang/IllegalArgumentException") (List.mem_of_getElem? (i := 1) rfl)) (hts (.initialized "java/lang/IllegalArgumentException") (List.mem_of_getElem? (i := 2) rfl)) (fun w h9 => hts w (List.mem_cons_of_mem _ (List.mem_append_left _ (List.mem_append_right _ h9)))) (by decide +kernel) (by decide +kernel) dX4_addWord_7 dX4_addWord_10 dX4_addWord_11 dX4_addWord_13 dX4_addWord_16 ⟨Nat.le_of_ble_eq_true rfl, Nat.le_of_ble_eq_true rfl, Nat.le_of_ble_eq_true rfl, Nat.le_of_ble_eq_true rfl⟩

set_option maxHeartbeats 4000000 in
set_option maxRecDepth 100000 in
theorem c_X4_addWord_x2 {l : Launch} {B kr kp : Nat} {D : va_G} {cI cJ cZ : ClassId} {h : Nat → Nat} {R : va_W} {n : Nat} {L : Nat → Int64} {kt : Nat → Int32} {km : Nat → Int32} {kl : Nat → Int32} {pt : Nat → Int32} {pm : Nat → Int32} {pl : Nat → Int32} {nu : Nat → Int32} {le : Nat → Int32} {ow : Nat → Int32} {fo : Nat → Int32} {run : Bool} {wc : Nat} {lc : Nat} {tr : Nat} {cl : Nat} {tm : Nat} {ms : Nat} {yl : Nat → Int32} {yc : Nat → Int32} {yt : Nat → Int32} {co : Nat} {pa : Int32} {su : Nat} {sc : Nat} {mc : Nat → Int32} {w : Int64}   (hls : l.stackTraces = false) (hz : zok w = true) (hn : n ≤ 40) (hf : ¬ n < 40 ∨ zhd L w n = true) : vx_Met l yX4_addWord wsX4_addWord ({ frames := 6, cells := 1, slots := 6, locals := 82 }) (zPc B kr kp D (zTy cI cJ cZ) (zWT cI cJ h (n, L) (kt, km, kl) (pt, pm, pl) (nu, le, ow, fo, run, wc, lc, tr, cl, tm, ms) (yl, yc, yt, co, pa, su, sc) mc ++ R) [.ref (h 0), .long w]) (zQxi B D (zWT cI cJ h (n, L) (kt, km, kl) (pt, pm, pl) (nu, le, ow, fo, run, wc, lc, tr, cl, tm, ms) (yl, yc, yt, co, pa, su, sc) mc ++ R)) (zXC "java/lang/IllegalStateException" B D (zWT cI cJ h (n, L) (kt, km, kl) (pt, pm, pl) (nu, le, ow, fo, run, wc, lc, tr, cl, tm, ms) (yl, yc, yt, co, pa, su, sc) mc ++ R)) 1 6 (zAb B) := by
  refine vx_ofW (cc := cX4_addWord) (maxL := 3) (ret := (some .int)) (by decide) rfl ?_
  intro p e s m args below meth c s₁ B0 hml ht9 hv
  obtain ⟨rfl, hP, hD, hK, hE, hB⟩ := hv
  have hx := B0.exec
  have hb := B0.bytes
  have hr := B0.returns
  have hts := atoms_spec (ws := wsX4_addWord) B0.pre
  have hown : s.vm.findClass RX4 = some m.cls := findClass_of_methodNamed B0.named
  have hlocks := B0.notSynchronized
  have hA : ∀ q : Nat, s.heap.size ≤ q → zAb B q := fun q hq => Nat.le_trans hB hq
  have hS : va_S (zAb B) s.heap s.heap [] := va_S.rf
  have hl := lv_entry ([.ref (h 0), .long w]) (n := 3) (Nat.le_of_ble_eq_true rfl)
  rw [lg_entry_eq]
  generalize (lg_sl ([.ref (h 0), .long w]) ++ List.replicate (3 - (lg_sl ([.ref (h 0), .long w])).length) Slot.unset).toArray = ls at hl ⊢
  have hl : lv_has ls 3 [(0, .ref (h 0)), (1, .long w)] := hl
  have hinX4 : ∀ w ∈ wsX40, w ∈ wsX4_addWord := fun _ h => List.mem_cons_of_mem _ (List.mem_append_left _ (List.mem_append_left _ (List.mem_append_left _ (List.mem_append_right _ h))))
  have hP : va_P D vwCl (zWT cI cJ h (n, L) (kt, km, kl) (pt, pm, pl) (nu, le, ow, fo, run, wc, lc, tr, cl, tm, ms) (yl, yc, yt, co, pa, su, sc) mc ++ R) s.heap := hP
  have hD : va_D (zAb B) (zWT cI cJ h (n, L) (kt, km, kl) (pt, pm, pl) (nu, le, ow, fo, run, wc, lc, tr, cl, tm, ms) (yl, yc, yt, co, pa, su, sc) mc ++ R) := hD
  refine lv_lload_n hx hb dX4_addWord_0 rfl (lv_at hl 1 rfl) ?_
  refine zci (zrS (As := [.long w]) (rest := []) ⟨hx, hb, hml, hown, hts⟩ (zS hP hD hK hE hB hS) (c_X4_tellsWord  ) (va_cwS 1 hts gX4_addWord_X4_tellsWord rfl rfl rfl hds_X4_tellsWord ⟨Nat.le_of_ble_eq_true rfl, Nat.le_of_ble_eq_true rfl⟩) rfl rfl hl.1 rfl (lv_room (Nat.le_of_ble_eq_true rfl)) dX4_addWord_1 ⟨Nat.le_of_ble_eq_true rfl, Nat.le_of_ble_eq_true rfl⟩) hS (fun H locs hP hD hS => ?_)
  have hP : va_P D vwCl (zWT cI cJ h (n, L) (kt, km, kl) (pt, pm, pl) (nu, le, ow, fo, run, wc, lc, tr, cl, tm, ms) (yl, yc, yt, co, pa, su, sc) mc ++ R) _ := hP
  have hD : va_D (zAb B) (zWT cI cJ h (n, L) (kt, km, kl) (pt, pm, pl) (nu, le, ow, fo, run, wc, lc, tr, cl, tm, ms) (yl, yc, yt, co, pa, su, sc) mc ++ R) := hD
  refine lv_if_ne (tgt := 17) hx hb dX4_addWord_4 (by decide) (fun c_1 => ?_) (fun c_1 => ?_)
  · skip
    have c_1 : (zok w) = true := zb_n c_1
    refine lv_aload_n hx hb dX4_addWord_17 rfl (lv_at hl 0 rfl) ?_
    refine va_get (ci := 4) (v := .ref (h 1)) (C := RX4) (T := TX4) (N := 6) hx hb hts hinX4 hown hK hP 0 rfl rfl 0 (by decide) (hts (.fieldLink RX4 12 "TypingTutor" "list" "LTypingTutor$WordList;") (List.mem_of_getElem? (i := 5) rfl)) (fun _ h9 => h9) rfl dX4_addWord_18 ?_
    refine zci (zrV (As := []) (rest := []) ⟨hx, hb, hml, hown, hts⟩ (zV 1 hP hD hK hE hB hS rfl rfl) (c_X3_isFull  (by omega)) (cwV 0 hts gX4_addWord_X3_isFull rfl rfl rfl hdv_X3_isFull ⟨Nat.le_of_ble_eq_true rfl, Nat.le_of_ble_eq_true rfl⟩) rfl rfl hl.1 rfl (lv_room (Nat.le_of_ble_eq_true rfl)) dX4_addWord_21 ⟨Nat.le_of_ble_eq_true rfl, Nat.le_of_ble_eq_true rfl⟩) hS (fun H locs hP hD hS => ?_)
    have hP : va_P D vwCl (zWT cI cJ h (n, L) (kt, km, kl) (pt, pm, pl) (nu, le, ow, fo, run, wc, lc, tr, cl, tm, ms) (yl, yc, yt, co, pa, su, sc) mc ++ R) _ := hP
    have hD : va_D (zAb B) (zWT cI cJ h (n, L) (kt, km, kl) (pt, pm, pl) (nu, le, ow, fo, run, wc, lc, tr, cl, tm, ms) (yl, yc, yt, co, pa, su, sc) mc ++ R) := hD
    refine lv_if_ne (tgt := 38) hx hb dX4_addWord_24 (by decide) (fun c_2 => ?_) (fun c_2 => ?_)
    · skip
      have c_2 := zq_n c_2
      exact zthrow hx hb hls hown hE hP hD hS (hl.1.trans hml.symm) ht9 hlocks (by decide +kernel) (List.mem_of_getElem? (i := 1) rfl) (by decide +kernel) (hts (.classLink RX4 64 "java/lang/IllegalStateException") (List.mem_of_getElem? (i := 3) rfl)) (hts (.initialized "java/lang/IllegalStateException") (List.mem_of_getElem? (i := 4) rfl)) (fun w h9 => hts w (List.mem_cons_of_mem _ (List.mem_append_right _ h9))) (by decide +kernel) (by decide +kernel) dX4_addWord_38 dX4_addWord_41 dX4_addWord_42 dX4_addWord_44 dX4_addWord_47 ⟨Nat.le_of_ble_eq_true rfl, Nat.le_of_ble_eq_true rfl, Nat.le_of_ble_eq_true rfl, Nat.le_of_ble_eq_true rfl⟩
    · skip
      have c_2 := zq_0 c_2
      refine lv_aload_n hx hb dX4_addWord_27 rfl (lv_at hl 0 rfl) ?_
      refine va_get (ci := 4) (v := .ref (h 1)) (C := RX4) (T := TX4) (N := 6) hx hb hts hinX4 hown hK hP 0 rfl rfl 0 (by decide) (hts (.fieldLink RX4 12 "TypingTutor" "list" "LTypingTutor$WordList;") (List.mem_of_getElem? (i := 5) rfl)) (fun _ h9 => h9) rfl dX4_addWord_28 ?_
      refine lv_lload_n hx hb dX4_addWord_31 rfl (lv_at hl 1 rfl) ?_
      refine zci (zrV (As := [.long w]) (rest := []) ⟨hx, hb, hml, hown, hts⟩ (zV 1 hP hD hK hE hB hS rfl rfl) (c_X3_holds  (by omega)) (cwV 1 hts gX4_addWord_X3_holds rfl rfl rfl hdv_X3_holds ⟨Nat.le_of_ble_eq_true rfl, Nat.le_of_ble_eq_true rfl⟩) rfl rfl hl.1 rfl (lv_room (Nat.le_of_ble_eq_true rfl)) dX4_addWord_32 ⟨Nat.le_of_ble_eq_true rfl, Nat.le_of_ble_eq_true rfl⟩) hS (fun H locs hP hD hS => ?_)
      have hP : va_P D vwCl (zWT cI cJ h (n, L) (kt, km, kl) (pt, pm, pl) (nu, le, ow, fo, run, wc, lc, tr, cl, tm, ms) (yl, yc, yt, co, pa, su, sc) mc ++ R) _ := hP
      have hD : va_D (zAb B) (zWT cI cJ h (n, L) (kt, km, kl) (pt, pm, pl) (nu, le, ow, fo, run, wc, lc, tr, cl, tm, ms) (yl, yc, yt, co, pa, su, sc) mc ++ R) := hD
      refine lv_if_eq (tgt := 48) hx hb dX4_addWord_35 (by decide) (fun c_3 => ?_) (fun c_3 => ?_)
      · skip
        have c_3 : (zhd L w n) = false := zb_0 c_3
        exact hf.elim (fun q => absurd (by omega) q) (fun q => absurd (c_3.symm.trans q) (by decide))
      · skip
        have c_3 : (zhd L w n) = true := zb_n c_3
        exact zthrow hx hb hls hown hE hP hD hS (hl.1.trans hml.symm) ht9 hlocks (by decide +kernel) (List.mem_of_getElem? (i := 1) rfl) (by decide +kernel) (hts (.classLink RX4 64 "java/lang/IllegalStateException") (List.mem_of_getElem? (i := 3) rfl)) (hts (.initialized "java/lang/IllegalStateException") (List.mem_of_getElem? (i := 4) rfl)) (fun w h9 => hts w (List.mem_cons_of_mem _ (List.mem_append_right _ h9))) (by decide +kernel) (by decide +kernel) dX4_addWord_38 dX4_addWord_41 dX4_addWord_42 dX4_addWord_44 dX4_addWord_47 ⟨Nat.le_of_ble_eq_true rfl, Nat.le_of_ble_eq_true rfl, Nat.le_of_ble_eq_true rfl, Nat.le_of_ble_eq_true rfl⟩
  · skip
    have c_1 : (zok w) = false := zb_0 c_1
    exact absurd (c_1.symm.trans hz) (by decide)

set_option maxHeartbeats 4000000 in
set_option maxRecDepth 100000 in
theorem c_X4_wordCount {l : Launch} {B kr kp : Nat} {D : va_G} {cI cJ cZ : ClassId} {h : Nat → Nat} {R : va_W} {n : Nat} {L : Nat → Int64} {kt : Nat → Int32} {km : Nat → Int32} {kl : Nat → Int32} {pt : Nat → Int32} {pm : Nat → Int32} {pl : Nat → Int32} {nu : Nat → Int32} {le : Nat → Int32} {ow : Nat → Int32} {fo : Nat → Int32} {run : Bool} {wc : Nat} {lc : Nat} {tr : Nat} {cl : Nat} {tm : Nat} {ms : Nat} {yl : Nat → Int32} {yc : Nat → Int32} {yt : Nat → Int32} {co : Nat} {pa : Int32} {su : Nat} {sc : Nat} {mc : Nat → Int32}     : Met l yX4_wordCount wsX4_wordCount ({ frames := 1, cells := 0, slots := 0, locals := 20 }) (zPc B kr kp D (zTy cI cJ cZ) (zWT cI cJ h (n, L) (kt, km, kl) (pt, pm, pl) (nu, le, ow, fo, run, wc, lc, tr, cl, tm, ms) (yl, yc, yt, co, pa, su, sc) mc ++ R) [.ref (h 0)]) (zQi B D (zWT cI cJ h (n, L) (kt, km, kl) (pt, pm, pl) (nu, le, ow, fo, run, wc, lc, tr, cl, tm, ms) (yl, yc, yt, co, pa, su, sc) mc ++ R) (nI n)) 0 0 (zAb B) := by
  refine Met.ofW (cc := cX4_wordCount) (maxL := 1) (ret := (some .int)) (by decide) rfl ?_
  intro p e s m args below meth c s₁ B0 hml hv
  obtain ⟨rfl, hP, hD, hK, hE, hB⟩ := hv
  have hx := B0.exec
  have hb := B0.bytes
  have hr := B0.returns
  have hts := atoms_spec (ws := wsX4_wordCount) B0.pre
  have hown : s.vm.findClass RX4 = some m.cls := findClass_of_methodNamed B0.named
  have hlocks := B0.notSynchronized
  have hA : ∀ q : Nat, s.heap.size ≤ q → zAb B q := fun q hq => Nat.le_trans hB hq
  have hS : va_S (zAb B) s.heap s.heap [] := va_S.rf
  have hl := lv_entry ([.ref (h 0)]) (n := 1) (Nat.le_of_ble_eq_true rfl)
  rw [lg_entry_eq]
  generalize (lg_sl ([.ref (h 0)]) ++ List.replicate (1 - (lg_sl ([.ref (h 0)])).length) Slot.unset).toArray = ls at hl ⊢
  have hl : lv_has ls 1 [(0, .ref (h 0))] := hl
  have hinX4 : ∀ w ∈ wsX40, w ∈ wsX4_wordCount := fun _ h => List.mem_cons_of_mem _ (List.mem_append_left _ (List.mem_append_right _ h))
  have hP : va_P D vwCl (zWT cI cJ h (n, L) (kt, km, kl) (pt, pm, pl) (nu, le, ow, fo, run, wc, lc, tr, cl, tm, ms) (yl, yc, yt, co, pa, su, sc) mc ++ R) s.heap := hP
  have hD : va_D (zAb B) (zWT cI cJ h (n, L) (kt, km, kl) (pt, pm, pl) (nu, le, ow, fo, run, wc, lc, tr, cl, tm, ms) (yl, yc, yt, co, pa, su, sc) mc ++ R) := hD
  refine lv_aload_n hx hb dX4_wordCount_0 rfl (lv_at hl 0 rfl) ?_
  refine va_get (ci := 4) (v := .ref (h 1)) (C := RX4) (T := TX4) (N := 6) hx hb hts hinX4 hown hK hP 0 rfl rfl 0 (by decide) (hts (.fieldLink RX4 12 "TypingTutor" "list" "LTypingTutor$WordList;") (List.mem_of_getElem? (i := 1) rfl)) (fun _ h9 => h9) rfl dX4_wordCount_1 ?_
  refine zci (zrV (As := []) (rest := []) ⟨hx, hb, hml, hown, hts⟩ (zV 1 hP hD hK hE hB hS rfl rfl) (c_X3_size  ) (cwV 0 hts gX4_wordCount_X3_size rfl rfl rfl hdv_X3_size ⟨Nat.le_of_ble_eq_true rfl, Nat.le_of_ble_eq_true rfl⟩) rfl rfl hl.1 rfl (lv_room (Nat.le_of_ble_eq_true rfl)) dX4_wordCount_4 ⟨Nat.le_of_ble_eq_true rfl, Nat.le_of_ble_eq_true rfl⟩) hS (fun H locs hP hD hS => ?_)
  have hP : va_P D vwCl (zWT cI cJ h (n, L) (kt, km, kl) (pt, pm, pl) (nu, le, ow, fo, run, wc, lc, tr, cl, tm, ms) (yl, yc, yt, co, pa, su, sc) mc ++ R) _ := hP
  have hD : va_D (zAb B) (zWT cI cJ h (n, L) (kt, km, kl) (pt, pm, pl) (nu, le, ow, fo, run, wc, lc, tr, cl, tm, ms) (yl, yc, yt, co, pa, su, sc) mc ++ R) := hD
  exact W.iret (v := (nI n)) hx hb hr (fun t ht hW => ⟨⟨_, (), rfl, rfl, by rw [ht]; exact hP, hD⟩, hS.F ht⟩) hS.2.2 dX4_wordCount_7

set_option maxHeartbeats 4000000 in
set_option maxRecDepth 100000 in
theorem c_X4_word {l : Launch} {B kr kp : Nat} {D : va_G} {cI cJ cZ : ClassId} {h : Nat → Nat} {R : va_W} {n : Nat} {L : Nat → Int64} {kt : Nat → Int32} {km : Nat → Int32} {kl : Nat → Int32} {pt : Nat → Int32} {pm : Nat → Int32} {pl : Nat → Int32} {nu : Nat → Int32} {le : Nat → Int32} {ow : Nat → Int32} {fo : Nat → Int32} {run : Bool} {wc : Nat} {lc : Nat} {tr : Nat} {cl : Nat} {tm : Nat} {ms : Nat} {yl : Nat → Int32} {yc : Nat → Int32} {yt : Nat → Int32} {co : Nat} {pa : Int32} {su : Nat} {sc : Nat} {mc : Nat → Int32} {k : Nat}   (hk : k < n) (hn : n ≤ 40) : Met l yX4_word wsX4_word ({ frames := 1, cells := 0, slots := 0, locals := 21 }) (zPc B kr kp D (zTy cI cJ cZ) (zWT cI cJ h (n, L) (kt, km, kl) (pt, pm, pl) (nu, le, ow, fo, run, wc, lc, tr, cl, tm, ms) (yl, yc, yt, co, pa, su, sc) mc ++ R) [.ref (h 0), .int (nI k)]) (zQl B D (zWT cI cJ h (n, L) (kt, km, kl) (pt, pm, pl) (nu, le, ow, fo, run, wc, lc, tr, cl, tm, ms) (yl, yc, yt, co, pa, su, sc) mc ++ R) (L k)) 0 0 (zAb B) := by
  refine Met.ofW (cc := cX4_word) (maxL := 2) (ret := (some .long)) (by decide) rfl ?_
  intro p e s m args below meth c s₁ B0 hml hv
  obtain ⟨rfl, hP, hD, hK, hE, hB⟩ := hv
  have hx := B0.exec
  have hb := B0.bytes
  have hr := B0.returns
  have hts := atoms_spec (ws := wsX4_word) B0.pre
  have hown : s.vm.findClass RX4 = some m.cls := findClass_of_methodNamed B0.named
  have hlocks := B0.notSynchronized
  have hA : ∀ q : Nat, s.heap.size ≤ q → zAb B q := fun q hq => Nat.le_trans hB hq
  have hS : va_S (zAb B) s.heap s.heap [] := va_S.rf
  have hl := lv_entry ([.ref (h 0), .int (nI k)]) (n := 2) (Nat.le_of_ble_eq_true rfl)
  rw [lg_entry_eq]
  generalize (lg_sl ([.ref (h 0), .int (nI k)]) ++ List.replicate (2 - (lg_sl ([.ref (h 0), .int (nI k)])).length) Slot.unset).toArray = ls at hl ⊢
  have hl : lv_has ls 2 [(0, .ref (h 0)), (1, .int (nI k))] := hl
  have hinX4 : ∀ w ∈ wsX40, w ∈ wsX4_word := fun _ h => List.mem_cons_of_mem _ (List.mem_append_left _ (List.mem_append_left _ (List.mem_append_right _ h)))
  have hP : va_P D vwCl (zWT cI cJ h (n, L) (kt, km, kl) (pt, pm, pl) (nu, le, ow, fo, run, wc, lc, tr, cl, tm, ms) (yl, yc, yt, co, pa, su, sc) mc ++ R) s.heap := hP
  have hD : va_D (zAb B) (zWT cI cJ h (n, L) (kt, km, kl) (pt, pm, pl) (nu, le, ow, fo, run, wc, lc, tr, cl, tm, ms) (yl, yc, yt, co, pa, su, sc) mc ++ R) := hD
  refine lv_aload_n hx hb dX4_word_0 rfl (lv_at hl 0 rfl) ?_
  refine va_get (ci := 4) (v := .ref (h 1)) (C := RX4) (T := TX4) (N := 6) hx hb hts hinX4 hown hK hP 0 rfl rfl 0 (by decide) (hts (.fieldLink RX4 12 "TypingTutor" "list" "LTypingTutor$WordList;") (List.mem_of_getElem? (i := 3) rfl)) (fun _ h9 => h9) rfl dX4_word_1 ?_
  refine lv_iload_n hx hb dX4_word_4 rfl (lv_at hl 1 rfl) ?_
  refine zci (zrV (As := [.int (nI k)]) (rest := []) ⟨hx, hb, hml, hown, hts⟩ (zV 1 hP hD hK hE hB hS rfl rfl) (c_X3_hasNumber (k := k) (by omega) (by omega)) (cwV 1 hts gX4_word_X3_hasNumber rfl rfl rfl hdv_X3_hasNumber ⟨Nat.le_of_ble_eq_true rfl, Nat.le_of_ble_eq_true rfl⟩) rfl rfl hl.1 rfl (lv_room (Nat.le_of_ble_eq_true rfl)) dX4_word_5 ⟨Nat.le_of_ble_eq_true rfl, Nat.le_of_ble_eq_true rfl⟩) hS (fun H locs hP hD hS => ?_)
  have hP : va_P D vwCl (zWT cI cJ h (n, L) (kt, km, kl) (pt, pm, pl) (nu, le, ow, fo, run, wc, lc, tr, cl, tm, ms) (yl, yc, yt, co, pa, su, sc) mc ++ R) _ := hP
  have hD : va_D (zAb B) (zWT cI cJ h (n, L) (kt, km, kl) (pt, pm, pl) (nu, le, ow, fo, run, wc, lc, tr, cl, tm, ms) (yl, yc, yt, co, pa, su, sc) mc ++ R) := hD
  refine lv_if_ne (tgt := 21) hx hb dX4_word_8 (by decide) (fun c_1 => ?_) (fun c_1 => ?_)
  · skip
    refine lv_aload_n hx hb dX4_word_21 rfl (lv_at hl 0 rfl) ?_
    refine va_get (ci := 4) (v := .ref (h 1)) (C := RX4) (T := TX4) (N := 6) hx hb hts hinX4 hown hK hP 0 rfl rfl 0 (by decide) (hts (.fieldLink RX4 12 "TypingTutor" "list" "LTypingTutor$WordList;") (List.mem_of_getElem? (i := 3) rfl)) (fun _ h9 => h9) rfl dX4_word_22 ?_
    refine lv_iload_n hx hb dX4_word_25 rfl (lv_at hl 1 rfl) ?_
    refine zcl (zrV (As := [.int (nI k)]) (rest := []) ⟨hx, hb, hml, hown, hts⟩ (zV 1 hP hD hK hE hB hS rfl rfl) (c_X3_wordAt (k := k) (by omega)) (cwV 1 hts gX4_word_X3_wordAt rfl rfl rfl hdv_X3_wordAt ⟨Nat.le_of_ble_eq_true rfl, Nat.le_of_ble_eq_true rfl⟩) rfl rfl hl.1 rfl (lv_room (Nat.le_of_ble_eq_true rfl)) dX4_word_26 ⟨Nat.le_of_ble_eq_true rfl, Nat.le_of_ble_eq_true rfl⟩) hS (fun H locs hP hD hS => ?_)
    have hP : va_P D vwCl (zWT cI cJ h (n, L) (kt, km, kl) (pt, pm, pl) (nu, le, ow, fo, run, wc, lc, tr, cl, tm, ms) (yl, yc, yt, co, pa, su, sc) mc ++ R) _ := hP
    have hD : va_D (zAb B) (zWT cI cJ h (n, L) (kt, km, kl) (pt, pm, pl) (nu, le, ow, fo, run, wc, lc, tr, cl, tm, ms) (yl, yc, yt, co, pa, su, sc) mc ++ R) := hD
    exact W.lret (v := (L k)) hx hb hr (fun t ht hW => ⟨⟨_, (), rfl, rfl, by rw [ht]; exact hP, hD⟩, hS.F ht⟩) hS.2.2 dX4_word_29
  · skip
    exfalso; first | omega | (revert c_1; decide) | (exact absurd rfl c_1) | simp_all

set_option maxHeartbeats 4000000 in
set_option maxRecDepth 100000 in
theorem c_X4_word_x {l : Launch} {B kr kp : Nat} {D : va_G} {cI cJ cZ : ClassId} {h : Nat → Nat} {R : va_W} {n : Nat} {L : Nat → Int64} {kt : Nat → Int32} {km : Nat → Int32} {kl : Nat → Int32} {pt : Nat → Int32} {pm : Nat → Int32} {pl : Nat → Int32} {nu : Nat → Int32} {le : Nat → Int32} {ow : Nat → Int32} {fo : Nat → Int32} {run : Bool} {wc : Nat} {lc : Nat} {tr : Nat} {cl : Nat} {tm : Nat} {ms : Nat} {yl : Nat → Int32} {yc : Nat → Int32} {yt : Nat → Int32} {co : Nat} {pa : Int32} {su : Nat} {sc : Nat} {mc : Nat → Int32} {i : Int32}   (hls : l.stackTraces = false) (hi : i < 0 ∨ nI n ≤ i) (hn : n ≤ 40) : vx_Met l yX4_word wsX4_word ({ frames := 6, cells := 1, slots := 6, locals := 82 }) (zPc B kr kp D (zTy cI cJ cZ) (zWT cI cJ h (n, L) (kt, km, kl) (pt, pm, pl) (nu, le, ow, fo, run, wc, lc, tr, cl, tm, ms) (yl, yc, yt, co, pa, su, sc) mc ++ R) [.ref (h 0), .int i]) (zQxl B D (zWT cI cJ h (n, L) (kt, km, kl) (pt, pm, pl) (nu, le, ow, fo, run, wc, lc, tr, cl, tm, ms) (yl, yc, yt, co, pa, su, sc) mc ++ R)) (zXC "java/lang/IndexOutOfBoundsException" B D (zWT cI cJ h (n, L) (kt, km, kl) (pt, pm, pl) (nu, le, ow, fo, run, wc, lc, tr, cl, tm, ms) (yl, yc, yt, co, pa, su, sc) mc ++ R)) 1 6 (zAb B) := by
  refine vx_ofW (cc := cX4_word) (maxL := 2) (ret := (some .long)) (by decide) rfl ?_
  intro p e s m args below meth c s₁ B0 hml ht9 hv
  obtain ⟨rfl, hP, hD, hK, hE, hB⟩ := hv
  have hx := B0.exec
  have hb := B0.bytes
  have hr := B0.returns
  have hts := atoms_spec (ws := wsX4_word) B0.pre
  have hown : s.vm.findClass RX4 = some m.cls := findClass_of_methodNamed B0.named
  have hlocks := B0.notSynchronized
  have hA : ∀ q : Nat, s.heap.size ≤ q → zAb B q := fun q hq => Nat.le_trans hB hq
  have hS : va_S (zAb B) s.heap s.heap [] := va_S.rf
  have hl := lv_entry ([.ref (h 0), .int i]) (n := 2) (Nat.le_of_ble_eq_true rfl)
  rw [lg_entry_eq]
  generalize (lg_sl ([.ref (h 0), .int i]) ++ List.replicate (2 - (lg_sl ([.ref (h 0), .int i])).length) Slot.unset).toArray = ls at hl ⊢
  have hl : lv_has ls 2 [(0, .ref (h 0)), (1, .int i)] := hl
  have hinX4 : ∀ w ∈ wsX40, w ∈ wsX4_word := fun _ h => List.mem_cons_of_mem _ (List.mem_append_left _ (List.mem_append_left _ (List.mem_append_right _ h)))
  have hP : va_P D vwCl (zWT cI cJ h (n, L) (kt, km, kl) (pt, pm, pl) (nu, le, ow, fo, run, wc, lc, tr, cl, tm, ms) (yl, yc, yt, co, pa, su, sc) mc ++ R) s.heap := hP
  have hD : va_D (zAb B) (zWT cI cJ h (n, L) (kt, km, kl) (pt, pm, pl) (nu, le, ow, fo, run, wc, lc, tr, cl, tm, ms) (yl, yc, yt, co, pa, su, sc) mc ++ R) := hD
  refine lv_aload_n hx hb dX4_word_0 rfl (lv_at hl 0 rfl) ?_
  refine va_get (ci := 4) (v := .ref (h 1)) (C := RX4) (T := TX4) (N := 6) hx hb hts hinX4 hown hK hP 0 rfl rfl 0 (by decide) (hts (.fieldLink RX4 12 "TypingTutor" "list" "LTypingTutor$WordList;") (List.mem_of_getElem? (i := 3) rfl)) (fun _ h9 => h9) rfl dX4_word_1 ?_
  refine lv_iload_n hx hb dX4_word_4 rfl (lv_at hl 1 rfl) ?_
  refine zci (zrV (As := [.int i]) (rest := []) ⟨hx, hb, hml, hown, hts⟩ (zV 1 hP hD hK hE hB hS rfl rfl) (c_X3_hasNumber_x  (hi) (hn)) (cwV 1 hts gX4_word_X3_hasNumber rfl rfl rfl hdv_X3_hasNumber ⟨Nat.le_of_ble_eq_true rfl, Nat.le_of_ble_eq_true rfl⟩) rfl rfl hl.1 rfl (lv_room (Nat.le_of_ble_eq_true rfl)) dX4_word_5 ⟨Nat.le_of_ble_eq_true rfl, Nat.le_of_ble_eq_true rfl⟩) hS (fun H locs hP hD hS => ?_)
  have hP : va_P D vwCl (zWT cI cJ h (n, L) (kt, km, kl) (pt, pm, pl) (nu, le, ow, fo, run, wc, lc, tr, cl, tm, ms) (yl, yc, yt, co, pa, su, sc) mc ++ R) _ := hP
  have hD : va_D (zAb B) (zWT cI cJ h (n, L) (kt, km, kl) (pt, pm, pl) (nu, le, ow, fo, run, wc, lc, tr, cl, tm, ms) (yl, yc, yt, co, pa, su, sc) mc ++ R) := hD
  refine lv_if_ne (tgt := 21) hx hb dX4_word_8 (by decide) (fun c_1 => ?_) (fun c_1 => ?_)
  · skip
    exfalso; first | omega | (revert c_1; decide) | (exact absurd rfl c_1) | simp_all
  · skip
    exact zthrow hx hb hls hown hE hP hD hS (hl.1.trans hml.symm) ht9 hlocks (by decide +kernel) (List.mem_of_getElem? (i := 2) rfl) (by decide +kernel) (hts (.classLink RX4 81 "java/lang/IndexOutOfBoundsException") (List.mem_of_getElem? (i := 1) rfl)) (hts (.initialized "java/lang/IndexOutOfBoundsException") (List.mem_of_getElem? (i := 2) rfl)) (fun w h9 => hts w (List.mem_cons_of_mem _ (List.mem_append_right _ h9))) (by decide +kernel) (by decide +kernel) dX4_word_11 dX4_word_14 dX4_word_15 dX4_word_17 dX4_word_20 ⟨Nat.le_of_ble_eq_true rfl, Nat.le_of_ble_eq_true rfl, Nat.le_of_ble_eq_true rfl, Nat.le_of_ble_eq_true rfl⟩

set_option maxHeartbeats 4000000 in
set_option maxRecDepth 100000 in
theorem c_X4_weight {l : Launch} {B kr kp : Nat} {D : va_G} {cI cJ cZ : ClassId} {h : Nat → Nat} {R : va_W} {n : Nat} {L : Nat → Int64} {kt : Nat → Int32} {km : Nat → Int32} {kl : Nat → Int32} {pt : Nat → Int32} {pm : Nat → Int32} {pl : Nat → Int32} {nu : Nat → Int32} {le : Nat → Int32} {ow : Nat → Int32} {fo : Nat → Int32} {run : Bool} {wc : Nat} {lc : Nat} {tr : Nat} {cl : Nat} {tm : Nat} {ms : Nat} {yl : Nat → Int32} {yc : Nat → Int32} {yt : Nat → Int32} {co : Nat} {pa : Int32} {su : Nat} {sc : Nat} {mc : Nat → Int32} {k : Nat}   (hk : k < n) (hn : n ≤ 40) (hL : 0 < zsz (L k)) : Met l yX4_weight wsX4_weight ({ frames := 4, cells := 0, slots := 0, locals := 89 }) (zPc B kr kp D (zTy cI cJ cZ) (zWT cI cJ h (n, L) (kt, km, kl) (pt, pm, pl) (nu, le, ow, fo, run, wc, lc, tr, cl, tm, ms) (yl, yc, yt, co, pa, su, sc) mc ++ R) [.ref (h 0), .int (nI k)]) (zQi B D (zWT cI cJ h (n, L) (kt, km, kl) (pt, pm, pl) (nu, le, ow, fo, run, wc, lc, tr, cl, tm, ms) (yl, yc, yt, co, pa, su, sc) mc ++ R) (zwg kl pt pl (L k))) 0 0 (zAb B) := by
  refine Met.ofW (cc := cX4_weight) (maxL := 2) (ret := (some .int)) (by decide) rfl ?_
  intro p e s m args below meth c s₁ B0 hml hv
  obtain ⟨rfl, hP, hD, hK, hE, hB⟩ := hv
  have hx := B0.exec
  have hb := B0.bytes
  have hr := B0.returns
  have hts := atoms_spec (ws := wsX4_weight) B0.pre
  have hown : s.vm.findClass RX4 = some m.cls := findClass_of_methodNamed B0.named
  have hlocks := B0.notSynchronized
  have hA : ∀ q : Nat, s.heap.size ≤ q → zAb B q := fun q hq => Nat.le_trans hB hq
  have hS : va_S (zAb B) s.heap s.heap [] := va_S.rf
  have hl := lv_entry ([.ref (h 0), .int (nI k)]) (n := 2) (Nat.le_of_ble_eq_true rfl)
  rw [lg_entry_eq]
  generalize (lg_sl ([.ref (h 0), .int (nI k)]) ++ List.replicate (2 - (lg_sl ([.ref (h 0), .int (nI k)])).length) Slot.unset).toArray = ls at hl ⊢
  have hl : lv_has ls 2 [(0, .ref (h 0)), (1, .int (nI k))] := hl
  have hinX4 : ∀ w ∈ wsX40, w ∈ wsX4_weight := fun _ h => List.mem_cons_of_mem _ (List.mem_append_left _ (List.mem_append_left _ (List.mem_append_left _ (List.mem_append_right _ h))))
  have hP : va_P D vwCl (zWT cI cJ h (n, L) (kt, km, kl) (pt, pm, pl) (nu, le, ow, fo, run, wc, lc, tr, cl, tm, ms) (yl, yc, yt, co, pa, su, sc) mc ++ R) s.heap := hP
  have hD : va_D (zAb B) (zWT cI cJ h (n, L) (kt, km, kl) (pt, pm, pl) (nu, le, ow, fo, run, wc, lc, tr, cl, tm, ms) (yl, yc, yt, co, pa, su, sc) mc ++ R) := hD
  refine lv_aload_n hx hb dX4_weight_0 rfl (lv_at hl 0 rfl) ?_
  refine va_get (ci := 4) (v := .ref (h 1)) (C := RX4) (T := TX4) (N := 6) hx hb hts hinX4 hown hK hP 0 rfl rfl 0 (by decide) (hts (.fieldLink RX4 12 "TypingTutor" "list" "LTypingTutor$WordList;") (List.mem_of_getElem? (i := 3) rfl)) (fun _ h9 => h9) rfl dX4_weight_1 ?_
  refine lv_iload_n hx hb dX4_weight_4 rfl (lv_at hl 1 rfl) ?_
  refine zci (zrV (As := [.int (nI k)]) (rest := []) ⟨hx, hb, hml, hown, hts⟩ (zV 1 hP hD hK hE hB hS rfl rfl) (c_X3_hasNumber (k := k) (by omega) (by omega)) (cwV 1 hts gX4_weight_X3_hasNumber rfl rfl rfl hdv_X3_hasNumber ⟨Nat.le_of_ble_eq_true rfl, Nat.le_of_ble_eq_true rfl⟩) rfl rfl hl.1 rfl (lv_room (Nat.le_of_ble_eq_true rfl)) dX4_weight_5 ⟨Nat.le_of_ble_eq_true rfl, Nat.le_of_ble_eq_true rfl⟩) hS (fun H locs hP hD hS => ?_)
  have hP : va_P D vwCl (zWT cI cJ h (n, L) (kt, km, kl) (pt, pm, pl) (nu, le, ow, fo, run, wc, lc, tr, cl, tm, ms) (yl, yc, yt, co, pa, su, sc) mc ++ R) _ := hP
  have hD : va_D (zAb B) (zWT cI cJ h (n, L) (kt, km, kl) (pt, pm, pl) (nu, le, ow, fo, run, wc, lc, tr, cl, tm, ms) (yl, yc, yt, co, pa, su, sc) mc ++ R) := hD
  refine lv_if_ne (tgt := 21) hx hb dX4_weight_8 (by decide) (fun c_1 => ?_) (fun c_1 => ?_)
  · skip
    refine lv_aload_n hx hb dX4_weight_21 rfl (lv_at hl 0 rfl) ?_
    refine lv_aload_n hx hb dX4_weight_22 rfl (lv_at hl 0 rfl) ?_
    refine va_get (ci := 4) (v := .ref (h 1)) (C := RX4) (T := TX4) (N := 6) hx hb hts hinX4 hown hK hP 0 rfl rfl 0 (by decide) (hts (.fieldLink RX4 12 "TypingTutor" "list" "LTypingTutor$WordList;") (List.mem_of_getElem? (i := 3) rfl)) (fun _ h9 => h9) rfl dX4_weight_23 ?_
    refine lv_iload_n hx hb dX4_weight_26 rfl (lv_at hl 1 rfl) ?_
    refine zcl (zrV (As := [.int (nI k)]) (rest := [.ref (h 0)]) ⟨hx, hb, hml, hown, hts⟩ (zV 1 hP hD hK hE hB hS rfl rfl) (c_X3_wordAt (k := k) (by omega)) (cwV 1 hts gX4_weight_X3_wordAt rfl rfl rfl hdv_X3_wordAt ⟨Nat.le_of_ble_eq_true rfl, Nat.le_of_ble_eq_true rfl⟩) rfl rfl hl.1 rfl (lv_room (Nat.le_of_ble_eq_true rfl)) dX4_weight_27 ⟨Nat.le_of_ble_eq_true rfl, Nat.le_of_ble_eq_true rfl⟩) hS (fun H locs hP hD hS => ?_)
    have hP : va_P D vwCl (zWT cI cJ h (n, L) (kt, km, kl) (pt, pm, pl) (nu, le, ow, fo, run, wc, lc, tr, cl, tm, ms) (yl, yc, yt, co, pa, su, sc) mc ++ R) _ := hP
    have hD : va_D (zAb B) (zWT cI cJ h (n, L) (kt, km, kl) (pt, pm, pl) (nu, le, ow, fo, run, wc, lc, tr, cl, tm, ms) (yl, yc, yt, co, pa, su, sc) mc ++ R) := hD
    refine zci (zrV (As := [.long (L k)]) (rest := []) ⟨hx, hb, hml, hown, hts⟩ (zV 0 hP hD hK hE hB hS rfl rfl) (c_X4_weightOf  (hL)) (cwV 1 hts gX4_weight_X4_weightOf rfl rfl rfl hdv_X4_weightOf ⟨Nat.le_of_ble_eq_true rfl, Nat.le_of_ble_eq_true rfl⟩) rfl rfl hl.1 rfl (lv_room (Nat.le_of_ble_eq_true rfl)) dX4_weight_30 ⟨Nat.le_of_ble_eq_true rfl, Nat.le_of_ble_eq_true rfl⟩) hS (fun H locs hP hD hS => ?_)
    have hP : va_P D vwCl (zWT cI cJ h (n, L) (kt, km, kl) (pt, pm, pl) (nu, le, ow, fo, run, wc, lc, tr, cl, tm, ms) (yl, yc, yt, co, pa, su, sc) mc ++ R) _ := hP
    have hD : va_D (zAb B) (zWT cI cJ h (n, L) (kt, km, kl) (pt, pm, pl) (nu, le, ow, fo, run, wc, lc, tr, cl, tm, ms) (yl, yc, yt, co, pa, su, sc) mc ++ R) := hD
    exact W.iret (v := (zwg kl pt pl (L k))) hx hb hr (fun t ht hW => ⟨⟨_, (), rfl, rfl, by rw [ht]; exact hP, hD⟩, hS.F ht⟩) hS.2.2 dX4_weight_33
  · skip
    exfalso; first | omega | (revert c_1; decide) | (exact absurd rfl c_1) | simp_all

set_option maxHeartbeats 4000000 in
set_option maxRecDepth 100000 in
theorem c_X4_weight_x {l : Launch} {B kr kp : Nat} {D : va_G} {cI cJ cZ : ClassId} {h : Nat → Nat} {R : va_W} {n : Nat} {L : Nat → Int64} {kt : Nat → Int32} {km : Nat → Int32} {kl : Nat → Int32} {pt : Nat → Int32} {pm : Nat → Int32} {pl : Nat → Int32} {nu : Nat → Int32} {le : Nat → Int32} {ow : Nat → Int32} {fo : Nat → Int32} {run : Bool} {wc : Nat} {lc : Nat} {tr : Nat} {cl : Nat} {tm : Nat} {ms : Nat} {yl : Nat → Int32} {yc : Nat → Int32} {yt : Nat → Int32} {co : Nat} {pa : Int32} {su : Nat} {sc : Nat} {mc : Nat → Int32} {i : Int32}   (hls : l.stackTraces = false) (hi : i < 0 ∨ nI n ≤ i) (hn : n ≤ 40) : vx_Met l yX4_weight wsX4_weight ({ frames := 6, cells := 1, slots := 6, locals := 82 }) (zPc B kr kp D (zTy cI cJ cZ) (zWT cI cJ h (n, L) (kt, km, kl) (pt, pm, pl) (nu, le, ow, fo, run, wc, lc, tr, cl, tm, ms) (yl, yc, yt, co, pa, su, sc) mc ++ R) [.ref (h 0), .int i]) (zQxi B D (zWT cI cJ h (n, L) (kt, km, kl) (pt, pm, pl) (nu, le, ow, fo, run, wc, lc, tr, cl, tm, ms) (yl, yc, yt, co, pa, su, sc) mc ++ R)) (zXC "java/lang/IndexOutOfBoundsException" B D (zWT cI cJ h (n, L) (kt, km, kl) (pt, pm, pl) (nu, le, ow, fo, run, wc, lc, tr, cl, tm, ms) (yl, yc, yt, co, pa, su, sc) mc ++ R)) 1 6 (zAb B) := by
  refine vx_ofW (cc := cX4_weight) (maxL := 2) (ret := (some .int)) (by decide) rfl ?_
  intro p e s m args below meth c s₁ B0 hml ht9 hv
  obtain ⟨rfl, hP, hD, hK, hE, hB⟩ := hv
  have hx := B0.exec
  have hb := B0.bytes
  have hr := B0.returns
  have hts := atoms_spec (ws := wsX4_weight) B0.pre
  have hown : s.vm.findClass RX4 = some m.cls := findClass_of_methodNamed B0.named
  have hlocks := B0.notSynchronized
  have hA : ∀ q : Nat, s.heap.size ≤ q → zAb B q := fun q hq => Nat.le_trans hB hq
  have hS : va_S (zAb B) s.heap s.heap [] := va_S.rf
  have hl := lv_entry ([.ref (h 0), .int i]) (n := 2) (Nat.le_of_ble_eq_true rfl)
  rw [lg_entry_eq]
  generalize (lg_sl ([.ref (h 0), .int i]) ++ List.replicate (2 - (lg_sl ([.ref (h 0), .int i])).length) Slot.unset).toArray = ls at hl ⊢
  have hl : lv_has ls 2 [(0, .ref (h 0)), (1, .int i)] := hl
  have hinX4 : ∀ w ∈ wsX40, w ∈ wsX4_weight := fun _ h => List.mem_cons_of_mem _ (List.mem_append_left _ (List.mem_append_left _ (List.mem_append_left _ (List.mem_append_right _ h))))
  have hP : va_P D vwCl (zWT cI cJ h (n, L) (kt, km, kl) (pt, pm, pl) (nu, le, ow, fo, run, wc, lc, tr, cl, tm, ms) (yl, yc, yt, co, pa, su, sc) mc ++ R) s.heap := hP
  have hD : va_D (zAb B) (zWT cI cJ h (n, L) (kt, km, kl) (pt, pm, pl) (nu, le, ow, fo, run, wc, lc, tr, cl, tm, ms) (yl, yc, yt, co, pa, su, sc) mc ++ R) := hD
  refine lv_aload_n hx hb dX4_weight_0 rfl (lv_at hl 0 rfl) ?_
  refine va_get (ci := 4) (v := .ref (h 1)) (C := RX4) (T := TX4) (N := 6) hx hb hts hinX4 hown hK hP 0 rfl rfl 0 (by decide) (hts (.fieldLink RX4 12 "TypingTutor" "list" "LTypingTutor$WordList;") (List.mem_of_getElem? (i := 3) rfl)) (fun _ h9 => h9) rfl dX4_weight_1 ?_
  refine lv_iload_n hx hb dX4_weight_4 rfl (lv_at hl 1 rfl) ?_
  refine zci (zrV (As := [.int i]) (rest := []) ⟨hx, hb, hml, hown, hts⟩ (zV 1 hP hD hK hE hB hS rfl rfl) (c_X3_hasNumber_x  (hi) (hn)) (cwV 1 hts gX4_weight_X3_hasNumber rfl rfl rfl hdv_X3_hasNumber ⟨Nat.le_of_ble_eq_true rfl, Nat.le_of_ble_eq_true rfl⟩) rfl rfl hl.1 rfl (lv_room (Nat.le_of_ble_eq_true rfl)) dX4_weight_5 ⟨Nat.le_of_ble_eq_true rfl, Nat.le_of_ble_eq_true rfl⟩) hS (fun H locs hP hD hS => ?_)
  have hP : va_P D vwCl (zWT cI cJ h (n, L) (kt, km, kl) (pt, pm, pl) (nu, le, ow, fo, run, wc, lc, tr, cl, tm, ms) (yl, yc, yt, co, pa, su, sc) mc ++ R) _ := hP
  have hD : va_D (zAb B) (zWT cI cJ h (n, L) (kt, km, kl) (pt, pm, pl) (nu, le, ow, fo, run, wc, lc, tr, cl, tm, ms) (yl, yc, yt, co, pa, su, sc) mc ++ R) := hD
  refine lv_if_ne (tgt := 21) hx hb dX4_weight_8 (by decide) (fun c_1 => ?_) (fun c_1 => ?_)
  · skip
    exfalso; first | omega | (revert c_1; decide) | (exact absurd rfl c_1) | simp_all
  · skip
    exact zthrow hx hb hls hown hE hP hD hS (hl.1.trans hml.symm) ht9 hlocks (by decide +kernel) (List.mem_of_getElem? (i := 2) rfl) (by decide +kernel) (hts (.classLink RX4 81 "java/lang/IndexOutOfBoundsException") (List.mem_of_getElem? (i := 1) rfl)) (hts (.initialized "java/lang/IndexOutOfBoundsException") (List.mem_of_getElem? (i := 2) rfl)) (fun w h9 => hts w (List.mem_cons_of_mem _ (List.mem_append_right _ h9))) (by decide +kernel) (by decide +kernel) dX4_weight_11 dX4_weight_14 dX4_weight_15 dX4_weight_17 dX4_weight_20 ⟨Nat.le_of_ble_eq_true rfl, Nat.le_of_ble_eq_true rfl, Nat.le_of_ble_eq_true rfl, Nat.le_of_ble_eq_true rfl⟩

set_option maxHeartbeats 4000000 in
set_option maxRecDepth 100000 in
theorem c_X4_areNeighbours {l : Launch} {B kr kp : Nat} {D : va_G} {cI cJ cZ : ClassId} {h : Nat → Nat} {R : va_W} {n : Nat} {L : Nat → Int64} {kt : Nat → Int32} {km : Nat → Int32} {kl : Nat → Int32} {pt : Nat → Int32} {pm : Nat → Int32} {pl : Nat → Int32} {nu : Nat → Int32} {le : Nat → Int32} {ow : Nat → Int32} {fo : Nat → Int32} {run : Bool} {wc : Nat} {lc : Nat} {tr : Nat} {cl : Nat} {tm : Nat} {ms : Nat} {yl : Nat → Int32} {yc : Nat → Int32} {yt : Nat → Int32} {co : Nat} {pa : Int32} {su : Nat} {sc : Nat} {mc : Nat → Int32} {a : Int32} {b : Int32}   (h1 : ¬ a < 0 ∧ ¬ 26 ≤ a) (h2 : ¬ b < 0 ∧ ¬ 26 ≤ b) : Met l yX4_areNeighbours wsX4_areNeighbours ({ frames := 2, cells := 0, slots := 0, locals := 47 }) (zPc B kr kp D (zTy cI cJ cZ) (zWT cI cJ h (n, L) (kt, km, kl) (pt, pm, pl) (nu, le, ow, fo, run, wc, lc, tr, cl, tm, ms) (yl, yc, yt, co, pa, su, sc) mc ++ R) [.ref (h 0), .int a, .int b]) (zQi B D (zWT cI cJ h (n, L) (kt, km, kl) (pt, pm, pl) (nu, le, ow, fo, run, wc, lc, tr, cl, tm, ms) (yl, yc, yt, co, pa, su, sc) mc ++ R) (zb (zst a b))) 0 0 (zAb B) := by
  refine Met.ofW (cc := cX4_areNeighbours) (maxL := 3) (ret := (some .boolean)) (by decide) rfl ?_
  intro p e s m args below meth c s₁ B0 hml hv
  obtain ⟨rfl, hP, hD, hK, hE, hB⟩ := hv
  have hx := B0.exec
  have hb := B0.bytes
  have hr := B0.returns
  have hts := atoms_spec (ws := wsX4_areNeighbours) B0.pre
  have hown : s.vm.findClass RX4 = some m.cls := findClass_of_methodNamed B0.named
  have hlocks := B0.notSynchronized
  have hA : ∀ q : Nat, s.heap.size ≤ q → zAb B q := fun q hq => Nat.le_trans hB hq
  have hS : va_S (zAb B) s.heap s.heap [] := va_S.rf
  have hl := lv_entry ([.ref (h 0), .int a, .int b]) (n := 3) (Nat.le_of_ble_eq_true rfl)
  rw [lg_entry_eq]
  generalize (lg_sl ([.ref (h 0), .int a, .int b]) ++ List.replicate (3 - (lg_sl ([.ref (h 0), .int a, .int b])).length) Slot.unset).toArray = ls at hl ⊢
  have hl : lv_has ls 3 [(0, .ref (h 0)), (1, .int a), (2, .int b)] := hl
  have hP : va_P D vwCl (zWT cI cJ h (n, L) (kt, km, kl) (pt, pm, pl) (nu, le, ow, fo, run, wc, lc, tr, cl, tm, ms) (yl, yc, yt, co, pa, su, sc) mc ++ R) s.heap := hP
  have hD : va_D (zAb B) (zWT cI cJ h (n, L) (kt, km, kl) (pt, pm, pl) (nu, le, ow, fo, run, wc, lc, tr, cl, tm, ms) (yl, yc, yt, co, pa, su, sc) mc ++ R) := hD
  refine lv_iload_n hx hb dX4_areNeighbours_0 rfl (lv_at hl 1 rfl) ?_
  refine zci (zrS (As := [.int a]) (rest := []) ⟨hx, hb, hml, hown, hts⟩ (zS hP hD hK hE hB hS) (c_X4_isKey  ) (va_cwS 1 hts gX4_areNeighbours_X4_isKey rfl rfl rfl hds_X4_isKey ⟨Nat.le_of_ble_eq_true rfl, Nat.le_of_ble_eq_true rfl⟩) rfl rfl hl.1 rfl (lv_room (Nat.le_of_ble_eq_true rfl)) dX4_areNeighbours_1 ⟨Nat.le_of_ble_eq_true rfl, Nat.le_of_ble_eq_true rfl⟩) hS (fun H locs hP hD hS => ?_)
  have hP : va_P D vwCl (zWT cI cJ h (n, L) (kt, km, kl) (pt, pm, pl) (nu, le, ow, fo, run, wc, lc, tr, cl, tm, ms) (yl, yc, yt, co, pa, su, sc) mc ++ R) _ := hP
  have hD : va_D (zAb B) (zWT cI cJ h (n, L) (kt, km, kl) (pt, pm, pl) (nu, le, ow, fo, run, wc, lc, tr, cl, tm, ms) (yl, yc, yt, co, pa, su, sc) mc ++ R) := hD
  refine lv_if_eq (tgt := 14) hx hb dX4_areNeighbours_4 (by decide) (fun c_1 => ?_) (fun c_1 => ?_)
  · skip
    have c_1 := zq_0 c_1
    exact absurd h1 c_1
  · skip
    have c_1 := zq_n c_1
    refine lv_iload_n hx hb dX4_areNeighbours_7 rfl (lv_at hl 2 rfl) ?_
    refine zci (zrS (As := [.int b]) (rest := []) ⟨hx, hb, hml, hown, hts⟩ (zS hP hD hK hE hB hS) (c_X4_isKey  ) (va_cwS 1 hts gX4_areNeighbours_X4_isKey rfl rfl rfl hds_X4_isKey ⟨Nat.le_of_ble_eq_true rfl, Nat.le_of_ble_eq_true rfl⟩) rfl rfl hl.1 rfl (lv_room (Nat.le_of_ble_eq_true rfl)) dX4_areNeighbours_8 ⟨Nat.le_of_ble_eq_true rfl, Nat.le_of_ble_eq_true rfl⟩) hS (fun H locs hP hD hS => ?_)
    have hP : va_P D vwCl (zWT cI cJ h (n, L) (kt, km, kl) (pt, pm, pl) (nu, le, ow, fo, run, wc, lc, tr, cl, tm, ms) (yl, yc, yt, co, pa, su, sc) mc ++ R) _ := hP
    have hD : va_D (zAb B) (zWT cI cJ h (n, L) (kt, km, kl) (pt, pm, pl) (nu, le, ow, fo, run, wc, lc, tr, cl, tm, ms) (yl, yc, yt, co, pa, su, sc) mc ++ R) := hD
    refine lv_if_ne (tgt := 24) hx hb dX4_areNeighbours_11 (by decide) (fun c_2 => ?_) (fun c_2 => ?_)
    · skip
      have c_2 := zq_n c_2
      refine lv_iload_n hx hb dX4_areNeighbours_24 rfl (lv_at hl 1 rfl) ?_
      refine lv_iload_n hx hb dX4_areNeighbours_25 rfl (lv_at hl 2 rfl) ?_
      refine zci (zrS (As := [.int a, .int b]) (rest := []) ⟨hx, hb, hml, hown, hts⟩ (zS hP hD hK hE hB hS) (c_X4_standSideBySide  ) (va_cwS 2 hts gX4_areNeighbours_X4_standSideBySide rfl rfl rfl hds_X4_standSideBySide ⟨Nat.le_of_ble_eq_true rfl, Nat.le_of_ble_eq_true rfl⟩) rfl rfl hl.1 rfl (lv_room (Nat.le_of_ble_eq_true rfl)) dX4_areNeighbours_26 ⟨Nat.le_of_ble_eq_true rfl, Nat.le_of_ble_eq_true rfl⟩) hS (fun H locs hP hD hS => ?_)
      have hP : va_P D vwCl (zWT cI cJ h (n, L) (kt, km, kl) (pt, pm, pl) (nu, le, ow, fo, run, wc, lc, tr, cl, tm, ms) (yl, yc, yt, co, pa, su, sc) mc ++ R) _ := hP
      have hD : va_D (zAb B) (zWT cI cJ h (n, L) (kt, km, kl) (pt, pm, pl) (nu, le, ow, fo, run, wc, lc, tr, cl, tm, ms) (yl, yc, yt, co, pa, su, sc) mc ++ R) := hD
      exact W.zret (v := (zb (zst a b))) hx hb hr zb_nar (fun t ht hW => ⟨⟨_, (), rfl, rfl, by rw [ht]; exact hP, hD⟩, hS.F ht⟩) hS.2.2 dX4_areNeighbours_29
    · skip
      have c_2 := zq_0 c_2
      exact absurd h2 c_2

set_option maxHeartbeats 4000000 in
set_option maxRecDepth 100000 in
theorem c_X4_areNeighbours_x {l : Launch} {B kr kp : Nat} {D : va_G} {cI cJ cZ : ClassId} {h : Nat → Nat} {R : va_W} {n : Nat} {L : Nat → Int64} {kt : Nat → Int32} {km : Nat → Int32} {kl : Nat → Int32} {pt : Nat → Int32} {pm : Nat → Int32} {pl : Nat → Int32} {nu : Nat → Int32} {le : Nat → Int32} {ow : Nat → Int32} {fo : Nat → Int32} {run : Bool} {wc : Nat} {lc : Nat} {tr : Nat} {cl : Nat} {tm : Nat} {ms : Nat} {yl : Nat → Int32} {yc : Nat → Int32} {yt : Nat → Int32} {co : Nat} {pa : Int32} {su : Nat} {sc : Nat} {mc : Nat → Int32} {a : Int32} {b : Int32}   (hls : l.stackTraces = false) (h1 : ¬ ((¬ a < 0 ∧ ¬ 26 ≤ a) ∧ (¬ b < 0 ∧ ¬ 26 ≤ b))) : vx_Met l yX4_areNeighbours wsX4_areNeighbours ({ frames := 6, cells := 1, slots := 6, locals := 82 }) (zPc B kr kp D (zTy cI cJ cZ) (zWT cI cJ h (n, L) (kt, km, kl) (pt, pm, pl) (nu, le, ow, fo, run, wc, lc, tr, cl, tm, ms) (yl, yc, yt, co, pa, su, sc) mc ++ R) [.ref (h 0), .int a, .int b]) (zQxi B D (zWT cI cJ h (n, L) (kt, km, kl) (pt, pm, pl) (nu, le, ow, fo, run, wc, lc, tr, cl, tm, ms) (yl, yc, yt, co, pa, su, sc) mc ++ R)) (zXC "java/lang/IndexOutOfBoundsException" B D (zWT cI cJ h (n, L) (kt, km, kl) (pt, pm, pl) (nu, le, ow, fo, run, wc, lc, tr, cl, tm, ms) (yl, yc, yt, co, pa, su, sc) mc ++ R)) 1 6 (zAb B) := by
  refine vx_ofW (cc := cX4_areNeighbours) (maxL := 3) (ret := (some .boolean)) (by decide) rfl ?_
  intro p e s m args below meth c s₁ B0 hml ht9 hv
  obtain ⟨rfl, hP, hD, hK, hE, hB⟩ := hv
  have hx := B0.exec
  have hb := B0.bytes
  have hr := B0.returns
  have hts := atoms_spec (ws := wsX4_areNeighbours) B0.pre
  have hown : s.vm.findClass RX4 = some m.cls := findClass_of_methodNamed B0.named
  have hlocks := B0.notSynchronized
  have hA : ∀ q : Nat, s.heap.size ≤ q → zAb B q := fun q hq => Nat.le_trans hB hq
  have hS : va_S (zAb B) s.heap s.heap [] := va_S.rf
  have hl := lv_entry ([.ref (h 0), .int a, .int b]) (n := 3) (Nat.le_of_ble_eq_true rfl)
  rw [lg_entry_eq]
  generalize (lg_sl ([.ref (h 0), .int a, .int b]) ++ List.replicate (3 - (lg_sl ([.ref (h 0), .int a, .int b])).length) Slot.unset).toArray = ls at hl ⊢
  have hl : lv_has ls 3 [(0, .ref (h 0)), (1, .int a), (2, .int b)] := hl
  have hP : va_P D vwCl (zWT cI cJ h (n, L) (kt, km, kl) (pt, pm, pl) (nu, le, ow, fo, run, wc, lc, tr, cl, tm, ms) (yl, yc, yt, co, pa, su, sc) mc ++ R) s.heap := hP
  have hD : va_D (zAb B) (zWT cI cJ h (n, L) (kt, km, kl) (pt, pm, pl) (nu, le, ow, fo, run, wc, lc, tr, cl, tm, ms) (yl, yc, yt, co, pa, su, sc) mc ++ R) := hD
  refine lv_iload_n hx hb dX4_areNeighbours_0 rfl (lv_at hl 1 rfl) ?_
  refine zci (zrS (As := [.int a]) (rest := []) ⟨hx, hb, hml, hown, hts⟩ (zS hP hD hK hE hB hS) (c_X4_isKey  ) (va_cwS 1 hts gX4_areNeighbours_X4_isKey rfl rfl rfl hds_X4_isKey ⟨Nat.le_of_ble_eq_true rfl, Nat.le_of_ble_eq_true rfl⟩) rfl rfl hl.1 rfl (lv_room (Nat.le_of_ble_eq_true rfl)) dX4_areNeighbours_1 ⟨Nat.le_of_ble_eq_true rfl, Nat.le_of_ble_eq_true rfl⟩) hS (fun H locs hP hD hS => ?_)
  have hP : va_P D vwCl (zWT cI cJ h (n, L) (kt, km, kl) (pt, pm, pl) (nu, le, ow, fo, run, wc, lc, tr, cl, tm, ms) (yl, yc, yt, co, pa, su, sc) mc ++ R) _ := hP
  have hD : va_D (zAb B) (zWT cI cJ h (n, L) (kt, km, kl) (pt, pm, pl) (nu, le, ow, fo, run, wc, lc, tr, cl, tm, ms) (yl, yc, yt, co, pa, su, sc) mc ++ R) := hD
  refine lv_if_eq (tgt := 14) hx hb dX4_areNeighbours_4 (by decide) (fun c_1 => ?_) (fun c_1 => ?_)
  · skip
    have c_1 := zq_0 c_1
    exact zthrow hx hb hls hown hE hP hD hS (hl.1.trans hml.symm) ht9 hlocks (by decide +kernel) (List.mem_of_getElem? (i := 3) rfl) (by decide +kernel) (hts (.classLink RX4 81 "java/lang/IndexOutOfBoundsException") (List.mem_of_getElem? (i := 1) rfl)) (hts (.initialized "java/lang/IndexOutOfBoundsException") (List.mem_of_getElem? (i := 2) rfl)) (fun w h9 => hts w (List.mem_cons_of_mem _ (List.mem_append_right _ h9))) (by decide +kernel) (by decide +kernel) dX4_areNeighbours_14 dX4_areNeighbours_17 dX4_areNeighbours_18 dX4_areNeighbours_20 dX4_areNeighbours_23 ⟨Nat.le_of_ble_eq_true rfl, Nat.le_of_ble_eq_true rfl, Nat.le_of_ble_eq_true rfl, Nat.le_of_ble_eq_true rfl⟩
  · skip
    have c_1 := zq_n c_1
    refine lv_iload_n hx hb dX4_areNeighbours_7 rfl (lv_at hl 2 rfl) ?_
    refine zci (zrS (As := [.int b]) (rest := []) ⟨hx, hb, hml, hown, hts⟩ (zS hP hD hK hE hB hS) (c_X4_isKey  ) (va_cwS 1 hts gX4_areNeighbours_X4_isKey rfl rfl rfl hds_X4_isKey ⟨Nat.le_of_ble_eq_true rfl, Nat.le_of_ble_eq_true rfl⟩) rfl rfl hl.1 rfl (lv_room (Nat.le_of_ble_eq_true rfl)) dX4_areNeighbours_8 ⟨Nat.le_of_ble_eq_true rfl, Nat.le_of_ble_eq_true rfl⟩) hS (fun H locs hP hD hS => ?_)
    have hP : va_P D vwCl (zWT cI cJ h (n, L) (kt, km, kl) (pt, pm, pl) (nu, le, ow, fo, run, wc, lc, tr, cl, tm, ms) (yl, yc, yt, co, pa, su, sc) mc ++ R) _ := hP
    have hD : va_D (zAb B) (zWT cI cJ h (n, L) (kt, km, kl) (pt, pm, pl) (nu, le, ow, fo, run, wc, lc, tr, cl, tm, ms) (yl, yc, yt, co, pa, su, sc) mc ++ R) := hD
    refine lv_if_ne (tgt := 24) hx hb dX4_areNeighbours_11 (by decide) (fun c_2 => ?_) (fun c_2 => ?_)
    · skip
      have c_2 := zq_n c_2
      exact absurd ⟨c_1, c_2⟩ h1
    · skip
      have c_2 := zq_0 c_2
      exact zthrow hx hb hls hown hE hP hD hS (hl.1.trans hml.symm) ht9 hlocks (by decide +kernel) (List.mem_of_getElem? (i := 3) rfl) (by decide +kernel) (hts (.classLink RX4 81 "java/lang/IndexOutOfBoundsException") (List.mem_of_getElem? (i := 1) rfl)) (hts (.initialized "java/lang/IndexOutOfBoundsException") (List.mem_of_getElem? (i := 2) rfl)) (fun w h9 => hts w (List.mem_cons_of_mem _ (List.mem_append_right _ h9))) (by decide +kernel) (by decide +kernel) dX4_areNeighbours_14 dX4_areNeighbours_17 dX4_areNeighbours_18 dX4_areNeighbours_20 dX4_areNeighbours_23 ⟨Nat.le_of_ble_eq_true rfl, Nat.le_of_ble_eq_true rfl, Nat.le_of_ble_eq_true rfl, Nat.le_of_ble_eq_true rfl⟩

set_option maxHeartbeats 4000000 in
set_option maxRecDepth 100000 in
theorem c_X4_open {l : Launch} {B kr kp : Nat} {D : va_G} {cI cJ cZ : ClassId} {h : Nat → Nat} {R : va_W} {n : Nat} {L : Nat → Int64} {kt : Nat → Int32} {km : Nat → Int32} {kl : Nat → Int32} {pt : Nat → Int32} {pm : Nat → Int32} {pl : Nat → Int32} {nu : Nat → Int32} {le : Nat → Int32} {ow : Nat → Int32} {fo : Nat → Int32} {run : Bool} {wc : Nat} {lc : Nat} {tr : Nat} {cl : Nat} {tm : Nat} {ms : Nat} {yl : Nat → Int32} {yc : Nat → Int32} {yt : Nat → Int32} {co : Nat} {pa : Int32} {su : Nat} {sc : Nat} {mc : Nat → Int32} {words : Nat}   (hw1 : 1 ≤ words) (hw6 : words ≤ 6) (hrun : run = false) (hn0 : 0 < n) (hn : n ≤ 40) (hL : ∀ j, j < n → 0 < zsz (L j)) : Met l yX4_open wsX4_open ({ frames := 6, cells := 0, slots := 0, locals := 140 }) (zPc B kr kp D (zTy cI cJ cZ) (zWT cI cJ h (n, L) (kt, km, kl) (pt, pm, pl) (nu, le, ow, fo, run, wc, lc, tr, cl, tm, ms) (yl, yc, yt, co, pa, su, sc) mc ++ R) [.ref (h 0), .int (nI words)]) (zQi B D (zWT cI cJ h (n, L) (kt, km, kl) (pt, pm, pl) (((zoT L n kl pt pl (nu, le, ow, zfil 26 0 fo, 0, 0) words).1), ((zoT L n kl pt pl (nu, le, ow, zfil 26 0 fo, 0, 0) words).2.1), ((zoT L n kl pt pl (nu, le, ow, zfil 26 0 fo, 0, 0) words).2.2.1), ((zoT L n kl pt pl (nu, le, ow, zfil 26 0 fo, 0, 0) words).2.2.2.1), true, ((zoT L n kl pt pl (nu, le, ow, zfil 26 0 fo, 0, 0) words).2.2.2.2.1), ((zoT L n kl pt pl (nu, le, ow, zfil 26 0 fo, 0, 0) words).2.2.2.2.2), 0, 0, 0, 0) (yl, yc, yt, co, pa, su, sc) mc ++ R) (nI ((zoT L n kl pt pl (nu, le, ow, zfil 26 0 fo, 0, 0) words).2.2.2.2.1))) 0 0 (zAb B) := by
  refine Met.ofW (cc := cX4_open) (maxL := 4) (ret := (some .int)) (by decide) rfl ?_
  intro p e s m args below meth c s₁ B0 hml hv
  obtain ⟨rfl, hP, hD, hK, hE, hB⟩ := hv
  have hx := B0.exec
  have hb := B0.bytes
  have hr := B0.returns
  have hts := atoms_spec (ws := wsX4_open) B0.pre
  have hown : s.vm.findClass RX4 = some m.cls := findClass_of_methodNamed B0.named
  have hlocks := B0.notSynchronized
  have hA : ∀ q : Nat, s.heap.size ≤ q → zAb B q := fun q hq => Nat.le_trans hB hq
  have hS : va_S (zAb B) s.heap s.heap [] := va_S.rf
  have hl := lv_entry ([.ref (h 0), .int (nI words)]) (n := 4) (Nat.le_of_ble_eq_true rfl)
  rw [lg_entry_eq]
  generalize (lg_sl ([.ref (h 0), .int (nI words)]) ++ List.replicate (4 - (lg_sl ([.ref (h 0), .int (nI words)])).length) Slot.unset).toArray = ls at hl ⊢
  have hl : lv_has ls 4 [(0, .ref (h 0)), (1, .int (nI words))] := hl
  have hinX4 : ∀ w ∈ wsX40, w ∈ wsX4_open := fun _ h => List.mem_cons_of_mem _ (List.mem_append_left _ (List.mem_append_left _ (List.mem_append_left _ (List.mem_append_left _ (List.mem_append_left _ (List.mem_append_right _ h))))))
  have hP : va_P D vwCl (zWT cI cJ h (n, L) (kt, km, kl) (pt, pm, pl) (nu, le, ow, fo, run, wc, lc, tr, cl, tm, ms) (yl, yc, yt, co, pa, su, sc) mc ++ R) s.heap := hP
  have hD : va_D (zAb B) (zWT cI cJ h (n, L) (kt, km, kl) (pt, pm, pl) (nu, le, ow, fo, run, wc, lc, tr, cl, tm, ms) (yl, yc, yt, co, pa, su, sc) mc ++ R) := hD
  refine lv_iload_n hx hb dX4_open_0 rfl (lv_at hl 1 rfl) ?_
  refine lv_iconst (v := 1) hx hb dX4_open_1 (by decide) ?_
  refine lv_icmp_lt (tgt := 11) hx hb dX4_open_2 (by decide) (fun c_1 => ?_) (fun c_1 => ?_)
  · skip
    have c_1 : words < 1 := (nI_ltI (a := words) (b := 1) (by omega) (by omega)).mp c_1
    exfalso; first | omega | (revert c_1; decide) | (exact absurd rfl c_1) | simp_all
  · skip
    have c_1 : ¬ words < 1 := fun hh => c_1 ((nI_ltI (a := words) (b := 1) (by omega) (by omega)).mpr hh)
    refine lv_iload_n hx hb dX4_open_5 rfl (lv_at hl 1 rfl) ?_
    refine lv_bipush (v := 6) hx hb dX4_open_6 (by decide) ?_
    refine lv_icmp_le (tgt := 21) hx hb dX4_open_8 (by decide) (fun c_2 => ?_) (fun c_2 => ?_)
    · skip
      have c_2 : words ≤ 6 := (nI_leI (a := words) (b := 6) (by omega) (by omega)).mp c_2
      refine lv_aload_n hx hb dX4_open_21 rfl (lv_at hl 0 rfl) ?_
      refine va_get (ci := 4) (v := .ref (h 11)) (C := RX4) (T := TX4) (N := 6) hx hb hts hinX4 hown hK hP 0 rfl rfl 3 (by decide) (hts (.fieldLink RX4 31 "TypingTutor" "current" "LTypingTutor$Lesson;") (List.mem_of_getElem? (i := 5) rfl)) (fun _ h9 => h9) rfl dX4_open_22 ?_
      refine zci (zrV (As := []) (rest := []) ⟨hx, hb, hml, hown, hts⟩ (zV 11 hP hD hK hE hB hS rfl rfl) (c_X2_isRunning  ) (cwV 0 hts gX4_open_X2_isRunning rfl rfl rfl hdv_X2_isRunning ⟨Nat.le_of_ble_eq_true rfl, Nat.le_of_ble_eq_true rfl⟩) rfl rfl hl.1 rfl (lv_room (Nat.le_of_ble_eq_true rfl)) dX4_open_25 ⟨Nat.le_of_ble_eq_true rfl, Nat.le_of_ble_eq_true rfl⟩) hS (fun H locs hP hD hS => ?_)
      have hP : va_P D vwCl (zWT cI cJ h (n, L) (kt, km, kl) (pt, pm, pl) (nu, le, ow, fo, run, wc, lc, tr, cl, tm, ms) (yl, yc, yt, co, pa, su, sc) mc ++ R) _ := hP
      have hD : va_D (zAb B) (zWT cI cJ h (n, L) (kt, km, kl) (pt, pm, pl) (nu, le, ow, fo, run, wc, lc, tr, cl, tm, ms) (yl, yc, yt, co, pa, su, sc) mc ++ R) := hD
      refine lv_if_ne (tgt := 41) hx hb dX4_open_28 (by decide) (fun c_3 => ?_) (fun c_3 => ?_)
      · skip
        have c_3 : run = true := zb_n c_3
        exact absurd (c_3.symm.trans hrun) (by decide)
      · skip
        have c_3 : run = false := zb_0 c_3
        refine lv_aload_n hx hb dX4_open_31 rfl (lv_at hl 0 rfl) ?_
        refine va_get (ci := 4) (v := .ref (h 1)) (C := RX4) (T := TX4) (N := 6) hx hb hts hinX4 hown hK hP 0 rfl rfl 0 (by decide) (hts (.fieldLink RX4 12 "TypingTutor" "list" "LTypingTutor$WordList;") (List.mem_of_getElem? (i := 6) rfl)) (fun _ h9 => h9) rfl dX4_open_32 ?_
        refine zci (zrV (As := []) (rest := []) ⟨hx, hb, hml, hown, hts⟩ (zV 1 hP hD hK hE hB hS rfl rfl) (c_X3_size  ) (cwV 0 hts gX4_open_X3_size rfl rfl rfl hdv_X3_size ⟨Nat.le_of_ble_eq_true rfl, Nat.le_of_ble_eq_true rfl⟩) rfl rfl hl.1 rfl (lv_room (Nat.le_of_ble_eq_true rfl)) dX4_open_35 ⟨Nat.le_of_ble_eq_true rfl, Nat.le_of_ble_eq_true rfl⟩) hS (fun H locs hP hD hS => ?_)
        have hP : va_P D vwCl (zWT cI cJ h (n, L) (kt, km, kl) (pt, pm, pl) (nu, le, ow, fo, run, wc, lc, tr, cl, tm, ms) (yl, yc, yt, co, pa, su, sc) mc ++ R) _ := hP
        have hD : va_D (zAb B) (zWT cI cJ h (n, L) (kt, km, kl) (pt, pm, pl) (nu, le, ow, fo, run, wc, lc, tr, cl, tm, ms) (yl, yc, yt, co, pa, su, sc) mc ++ R) := hD
        refine lv_if_ne (tgt := 51) hx hb dX4_open_38 (by decide) (fun c_4 => ?_) (fun c_4 => ?_)
        · skip
          have c_4 : ¬ n = 0 := fun hh => c_4 ((nI_eq (a := n) (b := 0) (by omega) (by omega)).mpr hh)
          refine lv_aload_n hx hb dX4_open_51 rfl (lv_at hl 0 rfl) ?_
          refine va_get (ci := 4) (v := .ref (h 11)) (C := RX4) (T := TX4) (N := 6) hx hb hts hinX4 hown hK hP 0 rfl rfl 3 (by decide) (hts (.fieldLink RX4 31 "TypingTutor" "current" "LTypingTutor$Lesson;") (List.mem_of_getElem? (i := 5) rfl)) (fun _ h9 => h9) rfl dX4_open_52 ?_
          refine zcv (zrV (As := []) (rest := []) ⟨hx, hb, hml, hown, hts⟩ (zV 11 hP hD hK hE hB hS rfl rfl) (c_X2_start  ) (cwV 0 hts gX4_open_X2_start rfl rfl rfl hdv_X2_start ⟨Nat.le_of_ble_eq_true rfl, Nat.le_of_ble_eq_true rfl⟩) rfl rfl hl.1 rfl (lv_room (Nat.le_of_ble_eq_true rfl)) dX4_open_55 ⟨Nat.le_of_ble_eq_true rfl, Nat.le_of_ble_eq_true rfl⟩) hS (fun H locs hP hD hS => ?_)
          have hP : va_P D vwCl (zWT cI cJ h (n, L) (kt, km, kl) (pt, pm, pl) (nu, le, ow, (zfil 26 0 fo), true, 0, 0, 0, 0, 0, 0) (yl, yc, yt, co, pa, su, sc) mc ++ R) _ := hP
          have hD : va_D (zAb B) (zWT cI cJ h (n, L) (kt, km, kl) (pt, pm, pl) (nu, le, ow, (zfil 26 0 fo), true, 0, 0, 0, 0, 0, 0) (yl, yc, yt, co, pa, su, sc) mc ++ R) := hD
          refine lv_iconst (v := 0) hx hb dX4_open_58 (by decide) ?_
          refine lv_istore_n (lv' := [(2, .int 0), (0, .ref (h 0)), (1, .int (nI words))]) hx hb dX4_open_59 rfl hl (by decide) rfl (fun ls hl => ?_)
          refine zloop (σ := (Nat)) (nL := 4) (fun x9 => (zWT cI cJ h (n, L) (kt, km, kl) (pt, pm, pl) ((zoT L n kl pt pl (nu, le, ow, zfil 26 0 fo, 0, 0) x9).1, (zoT L n kl pt pl (nu, le, ow, zfil 26 0 fo, 0, 0) x9).2.1, (zoT L n kl pt pl (nu, le, ow, zfil 26 0 fo, 0, 0) x9).2.2.1, (zoT L n kl pt pl (nu, le, ow, zfil 26 0 fo, 0, 0) x9).2.2.2.1, true, (zoT L n kl pt pl (nu, le, ow, zfil 26 0 fo, 0, 0) x9).2.2.2.2.1, (zoT L n kl pt pl (nu, le, ow, zfil 26 0 fo, 0, 0) x9).2.2.2.2.2, 0, 0, 0, 0) (yl, yc, yt, co, pa, su, sc) mc ++ R)) (fun x9 => [(2, .int (nI x9)), (0, .ref (h 0)), (1, .int (nI words))]) (fun x9 => []) (fun x9 => x9 ≤ words) (fun x9 => words - x9) ?_ (0) (by omega) _ _ _ hP hD hS (lv_sub hl [0, 1, 2] rfl)
          rintro j hI ih H locs ls hP hD hS hl
          try dsimp only at hI ih hP hD hS hl ⊢
          refine lv_iload_n hx hb dX4_open_60 rfl (lv_at hl 0 rfl) ?_
          refine lv_iload_n hx hb dX4_open_61 rfl (lv_at hl 2 rfl) ?_
          refine lv_icmp_ge (tgt := 100) hx hb dX4_open_62 (by decide) (fun c_5 => ?_) (fun c_5 => ?_)
          · skip
            have c_5 : words ≤ j := (nI_leI (a := words) (b := j) (by omega) (by omega)).mp c_5
            have e7 : (zoT L n kl pt pl (nu, le, ow, zfil 26 0 fo, 0, 0) j) = (zoT L n kl pt pl (nu, le, ow, zfil 26 0 fo, 0, 0) words) := by rw [show j = words from by omega]
            rw [e7] at hP hD
            refine lv_aload_n hx hb dX4_open_100 rfl (lv_at hl 1 rfl) ?_
            refine va_get (ci := 4) (v := .ref (h 11)) (C := RX4) (T := TX4) (N := 6) hx hb hts hinX4 hown hK hP 0 rfl rfl 3 (by decide) (hts (.fieldLink RX4 31 "TypingTutor" "current" "LTypingTutor$Lesson;") (List.mem_of_getElem? (i := 5) rfl)) (fun _ h9 => h9) rfl dX4_open_101 ?_
            refine zci (zrV (As := []) (rest := []) ⟨hx, hb, hml, hown, hts⟩ (zV 11 hP hD hK hE hB hS rfl rfl) (c_X2_wordTotal  ) (cwV 0 hts gX4_open_X2_wordTotal rfl rfl rfl hdv_X2_wordTotal ⟨Nat.le_of_ble_eq_true rfl, Nat.le_of_ble_eq_true rfl⟩) rfl rfl hl.1 rfl (lv_room (Nat.le_of_ble_eq_true rfl)) dX4_open_104 ⟨Nat.le_of_ble_eq_true rfl, Nat.le_of_ble_eq_true rfl⟩) hS (fun H locs hP hD hS => ?_)
            have hP : va_P D vwCl (zWT cI cJ h (n, L) (kt, km, kl) (pt, pm, pl) (((zoT L n kl pt pl (nu, le, ow, zfil 26 0 fo, 0, 0) words).1), ((zoT L n kl pt pl (nu, le, ow, zfil 26 0 fo, 0, 0) words).2.1), ((zoT L n kl pt pl (nu, le, ow, zfil 26 0 fo, 0, 0) words).2.2.1), ((zoT L n kl pt pl (nu, le, ow, zfil 26 0 fo, 0, 0) words).2.2.2.1), true, ((zoT L n kl pt pl (nu, le, ow, zfil 26 0 fo, 0, 0) words).2.2.2.2.1), ((zoT L n kl pt pl (nu, le, ow, zfil 26 0 fo, 0, 0) words).2.2.2.2.2), 0, 0, 0, 0) (yl, yc, yt, co, pa, su, sc) mc ++ R) _ := hP
            have hD : va_D (zAb B) (zWT cI cJ h (n, L) (kt, km, kl) (pt, pm, pl) (((zoT L n kl pt pl (nu, le, ow, zfil 26 0 fo, 0, 0) words).1), ((zoT L n kl pt pl (nu, le, ow, zfil 26 0 fo, 0, 0) words).2.1), ((zoT L n kl pt pl (nu, le, ow, zfil 26 0 fo, 0, 0) words).2.2.1), ((zoT L n kl pt pl (nu, le, ow, zfil 26 0 fo, 0, 0) words).2.2.2.1), true, ((zoT L n kl pt pl (nu, le, ow, zfil 26 0 fo, 0, 0) words).2.2.2.2.1), ((zoT L n kl pt pl (nu, le, ow, zfil 26 0 fo, 0, 0) words).2.2.2.2.2), 0, 0, 0, 0) (yl, yc, yt, co, pa, su, sc) mc ++ R) := hD
            exact W.iret (v := (nI ((zoT L n kl pt pl (nu, le, ow, zfil 26 0 fo, 0, 0) words).2.2.2.2.1))) hx hb hr (fun t ht hW => ⟨⟨_, (), rfl, rfl, by rw [ht]; exact hP, hD⟩, hS.F ht⟩) hS.2.2 dX4_open_107
          · skip
            have c_5 : ¬ words ≤ j := fun hh => c_5 ((nI_leI (a := words) (b := j) (by omega) (by omega)).mpr hh)
            refine lv_aload_n hx hb dX4_open_65 rfl (lv_at hl 1 rfl) ?_
            refine zci (zrV (As := []) (rest := []) ⟨hx, hb, hml, hown, hts⟩ (zV 0 hP hD hK hE hB hS rfl rfl) (c_X4_weakestWordLeft  (by omega) (by have := zoT_wc (L := L) (n := n) (kl := kl) (pt := pt) (pl := pl) (s := (nu, le, ow, zfil 26 0 fo, 0, 0)) j; omega) (hL)) (cwV 0 hts gX4_open_X4_weakestWordLeft rfl rfl rfl hdv_X4_weakestWordLeft ⟨Nat.le_of_ble_eq_true rfl, Nat.le_of_ble_eq_true rfl⟩) rfl rfl hl.1 rfl (lv_room (Nat.le_of_ble_eq_true rfl)) dX4_open_66 ⟨Nat.le_of_ble_eq_true rfl, Nat.le_of_ble_eq_true rfl⟩) hS (fun H locs hP hD hS => ?_)
            have hP : va_P D vwCl (zWT cI cJ h (n, L) (kt, km, kl) (pt, pm, pl) (((zoT L n kl pt pl (nu, le, ow, zfil 26 0 fo, 0, 0) j).1), ((zoT L n kl pt pl (nu, le, ow, zfil 26 0 fo, 0, 0) j).2.1), ((zoT L n kl pt pl (nu, le, ow, zfil 26 0 fo, 0, 0) j).2.2.1), ((zoT L n kl pt pl (nu, le, ow, zfil 26 0 fo, 0, 0) j).2.2.2.1), true, ((zoT L n kl pt pl (nu, le, ow, zfil 26 0 fo, 0, 0) j).2.2.2.2.1), ((zoT L n kl pt pl (nu, le, ow, zfil 26 0 fo, 0, 0) j).2.2.2.2.2), 0, 0, 0, 0) (yl, yc, yt, co, pa, su, sc) mc ++ R) _ := hP
            have hD : va_D (zAb B) (zWT cI cJ h (n, L) (kt, km, kl) (pt, pm, pl) (((zoT L n kl pt pl (nu, le, ow, zfil 26 0 fo, 0, 0) j).1), ((zoT L n kl pt pl (nu, le, ow, zfil 26 0 fo, 0, 0) j).2.1), ((zoT L n kl pt pl (nu, le, ow, zfil 26 0 fo, 0, 0) j).2.2.1), ((zoT L n kl pt pl (nu, le, ow, zfil 26 0 fo, 0, 0) j).2.2.2.1), true, ((zoT L n kl pt pl (nu, le, ow, zfil 26 0 fo, 0, 0) j).2.2.2.2.1), ((zoT L n kl pt pl (nu, le, ow, zfil 26 0 fo, 0, 0) j).2.2.2.2.2), 0, 0, 0, 0) (yl, yc, yt, co, pa, su, sc) mc ++ R) := hD
            obtain ⟨v9, hv9⟩ : ∃ v9, v9 = zpT L n kl pt pl (zoT L n kl pt pl (nu, le, ow, zfil 26 0 fo, 0, 0) j) := ⟨_, rfl⟩
            rw [show (zpk (fun k => zhw (zoT L n kl pt pl (nu, le, ow, zfil 26 0 fo, 0, 0) j).1 (nI k) (zoT L n kl pt pl (nu, le, ow, zfil 26 0 fo, 0, 0) j).2.2.2.2.1) (fun k => zwl (zfh (zoT L n kl pt pl (nu, le, ow, zfil 26 0 fo, 0, 0) j).2.2.2.1) kl pt pl (L k)) n).1 = v9 from hv9.symm]
            refine lv_istore_n (lv' := [(3, .int v9), (2, .int (nI j)), (0, .ref (h 0)), (1, .int (nI words))]) hx hb dX4_open_69 rfl hl (by decide) rfl (fun ls hl => ?_)
            refine lv_iload_n hx hb dX4_open_70 rfl (lv_at hl 0 rfl) ?_
            refine lv_iconst (v := (-1)) hx hb dX4_open_71 (by decide) ?_
            refine lv_icmp_ne (tgt := 78) hx hb dX4_open_72 (by decide) (fun c_6 => ?_) (fun c_6 => ?_)
            · skip
              obtain ⟨k9, hk9, hc9, e9⟩ := (zpk_in (fun k => zhw (zoT L n kl pt pl (nu, le, ow, zfil 26 0 fo, 0, 0) j).1 (nI k) (zoT L n kl pt pl (nu, le, ow, zfil 26 0 fo, 0, 0) j).2.2.2.2.1) (fun k => zwl (zfh (zoT L n kl pt pl (nu, le, ow, zfil 26 0 fo, 0, 0) j).2.2.2.1) kl pt pl (L k)) n).resolve_left (fun q => c_6 (hv9.trans q))
              obtain rfl : nI k9 = v9 := (hv9.trans e9).symm
              refine lv_aload_n hx hb dX4_open_78 rfl (lv_at hl 2 rfl) ?_
              refine va_get (ci := 4) (v := .ref (h 11)) (C := RX4) (T := TX4) (N := 6) hx hb hts hinX4 hown hK hP 0 rfl rfl 3 (by decide) (hts (.fieldLink RX4 31 "TypingTutor" "current" "LTypingTutor$Lesson;") (List.mem_of_getElem? (i := 5) rfl)) (fun _ h9 => h9) rfl dX4_open_79 ?_
              refine lv_iload_n hx hb dX4_open_82 rfl (lv_at hl 0 rfl) ?_
              refine lv_aload_n hx hb dX4_open_83 rfl (lv_at hl 2 rfl) ?_
              refine va_get (ci := 4) (v := .ref (h 1)) (C := RX4) (T := TX4) (N := 6) hx hb hts hinX4 hown hK hP 0 rfl rfl 0 (by decide) (hts (.fieldLink RX4 12 "TypingTutor" "list" "LTypingTutor$WordList;") (List.mem_of_getElem? (i := 6) rfl)) (fun _ h9 => h9) rfl dX4_open_84 ?_
              refine lv_iload_n hx hb dX4_open_87 rfl (lv_at hl 0 rfl) ?_
              refine zcl (zrV (As := [.int (nI k9)]) (rest := [.int (nI k9), .ref (h 11)]) ⟨hx, hb, hml, hown, hts⟩ (zV 1 hP hD hK hE hB hS rfl rfl) (c_X3_wordAt (k := k9) (by omega)) (cwV 1 hts gX4_open_X3_wordAt rfl rfl rfl hdv_X3_wordAt ⟨Nat.le_of_ble_eq_true rfl, Nat.le_of_ble_eq_true rfl⟩) rfl rfl hl.1 rfl (lv_room (Nat.le_of_ble_eq_true rfl)) dX4_open_88 ⟨Nat.le_of_ble_eq_true rfl, Nat.le_of_ble_eq_true rfl⟩) hS (fun H locs hP hD hS => ?_)
              have hP : va_P D vwCl (zWT cI cJ h (n, L) (kt, km, kl) (pt, pm, pl) (((zoT L n kl pt pl (nu, le, ow, zfil 26 0 fo, 0, 0) j).1), ((zoT L n kl pt pl (nu, le, ow, zfil 26 0 fo, 0, 0) j).2.1), ((zoT L n kl pt pl (nu, le, ow, zfil 26 0 fo, 0, 0) j).2.2.1), ((zoT L n kl pt pl (nu, le, ow, zfil 26 0 fo, 0, 0) j).2.2.2.1), true, ((zoT L n kl pt pl (nu, le, ow, zfil 26 0 fo, 0, 0) j).2.2.2.2.1), ((zoT L n kl pt pl (nu, le, ow, zfil 26 0 fo, 0, 0) j).2.2.2.2.2), 0, 0, 0, 0) (yl, yc, yt, co, pa, su, sc) mc ++ R) _ := hP
              have hD : va_D (zAb B) (zWT cI cJ h (n, L) (kt, km, kl) (pt, pm, pl) (((zoT L n kl pt pl (nu, le, ow, zfil 26 0 fo, 0, 0) j).1), ((zoT L n kl pt pl (nu, le, ow, zfil 26 0 fo, 0, 0) j).2.1), ((zoT L n kl pt pl (nu, le, ow, zfil 26 0 fo, 0, 0) j).2.2.1), ((zoT L n kl pt pl (nu, le, ow, zfil 26 0 fo, 0, 0) j).2.2.2.1), true, ((zoT L n kl pt pl (nu, le, ow, zfil 26 0 fo, 0, 0) j).2.2.2.2.1), ((zoT L n kl pt pl (nu, le, ow, zfil 26 0 fo, 0, 0) j).2.2.2.2.2), 0, 0, 0, 0) (yl, yc, yt, co, pa, su, sc) mc ++ R) := hD
              refine zcv (zrV (As := [.int (nI k9), .long (L k9)]) (rest := []) ⟨hx, hb, hml, hown, hts⟩ (zV 11 hP hD hK hE hB hS rfl rfl) (c_X2_append  (by have := zoT_wc (L := L) (n := n) (kl := kl) (pt := pt) (pl := pl) (s := (nu, le, ow, zfil 26 0 fo, 0, 0)) j; omega) (by have := zoT_lc (L := L) (n := n) (kl := kl) (pt := pt) (pl := pl) (s := (nu, le, ow, zfil 26 0 fo, 0, 0)) (hs := Nat.le_refl 0) j; have := zoT_wc (L := L) (n := n) (kl := kl) (pt := pt) (pl := pl) (s := (nu, le, ow, zfil 26 0 fo, 0, 0)) j; have := zsz_le (L k9); omega)) (cwV 2 hts gX4_open_X2_append rfl rfl rfl hdv_X2_append ⟨Nat.le_of_ble_eq_true rfl, Nat.le_of_ble_eq_true rfl⟩) rfl rfl hl.1 rfl (lv_room (Nat.le_of_ble_eq_true rfl)) dX4_open_91 ⟨Nat.le_of_ble_eq_true rfl, Nat.le_of_ble_eq_true rfl⟩) hS (fun H locs hP hD hS => ?_)
              have hP : va_P D vwCl (zWT cI cJ h (n, L) (kt, km, kl) (pt, pm, pl) ((upd ((zoT L n kl pt pl (nu, le, ow, zfil 26 0 fo, 0, 0) j).1) ((zoT L n kl pt pl (nu, le, ow, zfil 26 0 fo, 0, 0) j).2.2.2.2.1) (nI k9)), (zale ((zoT L n kl pt pl (nu, le, ow, zfil 26 0 fo, 0, 0) j).2.1) ((zoT L n kl pt pl (nu, le, ow, zfil 26 0 fo, 0, 0) j).2.2.2.2.2) (L k9) (zsz (L k9))), (zaow ((zoT L n kl pt pl (nu, le, ow, zfil 26 0 fo, 0, 0) j).2.2.1) ((zoT L n kl pt pl (nu, le, ow, zfil 26 0 fo, 0, 0) j).2.2.2.2.2) ((zoT L n kl pt pl (nu, le, ow, zfil 26 0 fo, 0, 0) j).2.2.2.2.1) (zsz (L k9))), (zafo ((zoT L n kl pt pl (nu, le, ow, zfil 26 0 fo, 0, 0) j).2.2.2.1) (L k9) (zsz (L k9))), true, (((zoT L n kl pt pl (nu, le, ow, zfil 26 0 fo, 0, 0) j).2.2.2.2.1) + 1), (((zoT L n kl pt pl (nu, le, ow, zfil 26 0 fo, 0, 0) j).2.2.2.2.2) + zsz (L k9)), 0, 0, 0, 0) (yl, yc, yt, co, pa, su, sc) mc ++ R) _ := hP
              have hD : va_D (zAb B) (zWT cI cJ h (n, L) (kt, km, kl) (pt, pm, pl) ((upd ((zoT L n kl pt pl (nu, le, ow, zfil 26 0 fo, 0, 0) j).1) ((zoT L n kl pt pl (nu, le, ow, zfil 26 0 fo, 0, 0) j).2.2.2.2.1) (nI k9)), (zale ((zoT L n kl pt pl (nu, le, ow, zfil 26 0 fo, 0, 0) j).2.1) ((zoT L n kl pt pl (nu, le, ow, zfil 26 0 fo, 0, 0) j).2.2.2.2.2) (L k9) (zsz (L k9))), (zaow ((zoT L n kl pt pl (nu, le, ow, zfil 26 0 fo, 0, 0) j).2.2.1) ((zoT L n kl pt pl (nu, le, ow, zfil 26 0 fo, 0, 0) j).2.2.2.2.2) ((zoT L n kl pt pl (nu, le, ow, zfil 26 0 fo, 0, 0) j).2.2.2.2.1) (zsz (L k9))), (zafo ((zoT L n kl pt pl (nu, le, ow, zfil 26 0 fo, 0, 0) j).2.2.2.1) (L k9) (zsz (L k9))), true, (((zoT L n kl pt pl (nu, le, ow, zfil 26 0 fo, 0, 0) j).2.2.2.2.1) + 1), (((zoT L n kl pt pl (nu, le, ow, zfil 26 0 fo, 0, 0) j).2.2.2.2.2) + zsz (L k9)), 0, 0, 0, 0) (yl, yc, yt, co, pa, su, sc) mc ++ R) := hD
              refine lv_iinc (v := (nI (j + 1))) (lv' := [(2, .int (nI (j + 1))), (3, .int (nI k9)), (0, .ref (h 0)), (1, .int (nI words))]) hx hb dX4_open_94 hl (k := 1) rfl (nI_add j 1) (by decide) rfl (fun ls hl => ?_)
              refine lv_goto (tgt := 60) hx hb dX4_open_97 (by decide) ?_
              have e8 : (zoT L n kl pt pl (nu, le, ow, zfil 26 0 fo, 0, 0) (j + 1)) = zap (zoT L n kl pt pl (nu, le, ow, zfil 26 0 fo, 0, 0) j) (nI k9) (L k9) := zoT_step (by omega) hv9.symm
              have hP : va_P D vwCl (zWT cI cJ h (n, L) (kt, km, kl) (pt, pm, pl) (((zoT L n kl pt pl (nu, le, ow, zfil 26 0 fo, 0, 0) (j + 1)).1), ((zoT L n kl pt pl (nu, le, ow, zfil 26 0 fo, 0, 0) (j + 1)).2.1), ((zoT L n kl pt pl (nu, le, ow, zfil 26 0 fo, 0, 0) (j + 1)).2.2.1), ((zoT L n kl pt pl (nu, le, ow, zfil 26 0 fo, 0, 0) (j + 1)).2.2.2.1), true, ((zoT L n kl pt pl (nu, le, ow, zfil 26 0 fo, 0, 0) (j + 1)).2.2.2.2.1), ((zoT L n kl pt pl (nu, le, ow, zfil 26 0 fo, 0, 0) (j + 1)).2.2.2.2.2), 0, 0, 0, 0) (yl, yc, yt, co, pa, su, sc) mc ++ R) H := by rw [e8]; exact hP
              have hD : va_D (zAb B) (zWT cI cJ h (n, L) (kt, km, kl) (pt, pm, pl) (((zoT L n kl pt pl (nu, le, ow, zfil 26 0 fo, 0, 0) (j + 1)).1), ((zoT L n kl pt pl (nu, le, ow, zfil 26 0 fo, 0, 0) (j + 1)).2.1), ((zoT L n kl pt pl (nu, le, ow, zfil 26 0 fo, 0, 0) (j + 1)).2.2.1), ((zoT L n kl pt pl (nu, le, ow, zfil 26 0 fo, 0, 0) (j + 1)).2.2.2.1), true, ((zoT L n kl pt pl (nu, le, ow, zfil 26 0 fo, 0, 0) (j + 1)).2.2.2.2.1), ((zoT L n kl pt pl (nu, le, ow, zfil 26 0 fo, 0, 0) (j + 1)).2.2.2.2.2), 0, 0, 0, 0) (yl, yc, yt, co, pa, su, sc) mc ++ R) := by rw [e8]; exact hD
              exact ih (j + 1) (by omega) (by omega) _ _ _ hP hD hS (lv_sub hl [0, 2, 3] rfl)
            · skip
              refine lv_goto (tgt := 100) hx hb dX4_open_75 (by decide) ?_
              have e7 : (zoT L n kl pt pl (nu, le, ow, zfil 26 0 fo, 0, 0) j) = (zoT L n kl pt pl (nu, le, ow, zfil 26 0 fo, 0, 0) words) := by have e6 := zoT_stop (L := L) (n := n) (kl := kl) (pt := pt) (pl := pl) (s := (nu, le, ow, zfil 26 0 fo, 0, 0)) (j := j) (hv9.symm.trans c_6) (words - j); rw [show j + (words - j) = words from by omega] at e6; exact e6.symm
              rw [e7] at hP hD
              refine lv_aload_n hx hb dX4_open_100 rfl (lv_at hl 2 rfl) ?_
              refine va_get (ci := 4) (v := .ref (h 11)) (C := RX4) (T := TX4) (N := 6) hx hb hts hinX4 hown hK hP 0 rfl rfl 3 (by decide) (hts (.fieldLink RX4 31 "TypingTutor" "current" "LTypingTutor$Lesson;") (List.mem_of_getElem? (i := 5) rfl)) (fun _ h9 => h9) rfl dX4_open_101 ?_
              refine zci (zrV (As := []) (rest := []) ⟨hx, hb, hml, hown, hts⟩ (zV 11 hP hD hK hE hB hS rfl rfl) (c_X2_wordTotal  ) (cwV 0 hts gX4_open_X2_wordTotal rfl rfl rfl hdv_X2_wordTotal ⟨Nat.le_of_ble_eq_true rfl, Nat.le_of_ble_eq_true rfl⟩) rfl rfl hl.1 rfl (lv_room (Nat.le_of_ble_eq_true rfl)) dX4_open_104 ⟨Nat.le_of_ble_eq_true rfl, Nat.le_of_ble_eq_true rfl⟩) hS (fun H locs hP hD hS => ?_)
              have hP : va_P D vwCl (zWT cI cJ h (n, L) (kt, km, kl) (pt, pm, pl) (((zoT L n kl pt pl (nu, le, ow, zfil 26 0 fo, 0, 0) words).1), ((zoT L n kl pt pl (nu, le, ow, zfil 26 0 fo, 0, 0) words).2.1), ((zoT L n kl pt pl (nu, le, ow, zfil 26 0 fo, 0, 0) words).2.2.1), ((zoT L n kl pt pl (nu, le, ow, zfil 26 0 fo, 0, 0) words).2.2.2.1), true, ((zoT L n kl pt pl (nu, le, ow, zfil 26 0 fo, 0, 0) words).2.2.2.2.1), ((zoT L n kl pt pl (nu, le, ow, zfil 26 0 fo, 0, 0) words).2.2.2.2.2), 0, 0, 0, 0) (yl, yc, yt, co, pa, su, sc) mc ++ R) _ := hP
              have hD : va_D (zAb B) (zWT cI cJ h (n, L) (kt, km, kl) (pt, pm, pl) (((zoT L n kl pt pl (nu, le, ow, zfil 26 0 fo, 0, 0) words).1), ((zoT L n kl pt pl (nu, le, ow, zfil 26 0 fo, 0, 0) words).2.1), ((zoT L n kl pt pl (nu, le, ow, zfil 26 0 fo, 0, 0) words).2.2.1), ((zoT L n kl pt pl (nu, le, ow, zfil 26 0 fo, 0, 0) words).2.2.2.1), true, ((zoT L n kl pt pl (nu, le, ow, zfil 26 0 fo, 0, 0) words).2.2.2.2.1), ((zoT L n kl pt pl (nu, le, ow, zfil 26 0 fo, 0, 0) words).2.2.2.2.2), 0, 0, 0, 0) (yl, yc, yt, co, pa, su, sc) mc ++ R) := hD
              exact W.iret (v := (nI ((zoT L n kl pt pl (nu, le, ow, zfil 26 0 fo, 0, 0) words).2.2.2.2.1))) hx hb hr (fun t ht hW => ⟨⟨_, (), rfl, rfl, by rw [ht]; exact hP, hD⟩, hS.F ht⟩) hS.2.2 dX4_open_107
        · skip
          have c_4 : n = 0 := (nI_eq (a := n) (b := 0) (by omega) (by omega)).mp c_4
          omega
    · skip
      have c_2 : ¬ words ≤ 6 := fun hh => c_2 ((nI_leI (a := words) (b := 6) (by omega) (by omega)).mpr hh)
      exfalso; first | omega | (revert c_2; decide) | (exact absurd rfl c_2) | simp_all

set_option maxHeartbeats 4000000 in
set_option maxRecDepth 100000 in
theorem c_X4_open_x1 {l : Launch} {B kr kp : Nat} {D : va_G} {cI cJ cZ : ClassId} {h : Nat → Nat} {R : va_W} {n : Nat} {L : Nat → Int64} {kt : Nat → Int32} {km : Nat → Int32} {kl : Nat → Int32} {pt : Nat → Int32} {pm : Nat → Int32} {pl : Nat → Int32} {nu : Nat → Int32} {le : Nat → Int32} {ow : Nat → Int32} {fo : Nat → Int32} {run : Bool} {wc : Nat} {lc : Nat} {tr : Nat} {cl : Nat} {tm : Nat} {ms : Nat} {yl : Nat → Int32} {yc : Nat → Int32} {yt : Nat → Int32} {co : Nat} {pa : Int32} {su : Nat} {sc : Nat} {mc : Nat → Int32} {i : Int32}   (hls : l.stackTraces = false) (hi : i < 1 ∨ ¬ i ≤ 6) : vx_Met l yX4_open wsX4_open ({ frames := 6, cells := 1, slots := 6, locals := 82 }) (zPc B kr kp D (zTy cI cJ cZ) (zWT cI cJ h (n, L) (kt, km, kl) (pt, pm, pl) (nu, le, ow, fo, run, wc, lc, tr, cl, tm, ms) (yl, yc, yt, co, pa, su, sc) mc ++ R) [.ref (h 0), .int i]) (zQxi B D (zWT cI cJ h (n, L) (kt, km, kl) (pt, pm, pl) (nu, le, ow, fo, run, wc, lc, tr, cl, tm, ms) (yl, yc, yt, co, pa, su, sc) mc ++ R)) (zXC "java/lang/IllegalArgumentException" B D (zWT cI cJ h (n, L) (kt, km, kl) (pt, pm, pl) (nu, le, ow, fo, run, wc, lc, tr, cl, tm, ms) (yl, yc, yt, co, pa, su, sc) mc ++ R)) 1 6 (zAb B) := by
  refine vx_ofW (cc := cX4_open) (maxL := 4) (ret := (some .int)) (by decide) rfl ?_
  intro p e s m args below meth c s₁ B0 hml ht9 hv
  obtain ⟨rfl, hP, hD, hK, hE, hB⟩ := hv
  have hx := B0.exec
  have hb := B0.bytes
  have hr := B0.returns
  have hts := atoms_spec (ws := wsX4_open) B0.pre
  have hown : s.vm.findClass RX4 = some m.cls := findClass_of_methodNamed B0.named
  have hlocks := B0.notSynchronized
  have hA : ∀ q : Nat, s.heap.size ≤ q → zAb B q := fun q hq => Nat.le_trans hB hq
  have hS : va_S (zAb B) s.heap s.heap [] := va_S.rf
  have hl := lv_entry ([.ref (h 0), .int i]) (n := 4) (Nat.le_of_ble_eq_true rfl)
  rw [lg_entry_eq]
  generalize (lg_sl ([.ref (h 0), .int i]) ++ List.replicate (4 - (lg_sl ([.ref (h 0), .int i])).length) Slot.unset).toArray = ls at hl ⊢
  have hl : lv_has ls 4 [(0, .ref (h 0)), (1, .int i)] := hl
  have hP : va_P D vwCl (zWT cI cJ h (n, L) (kt, km, kl) (pt, pm, pl) (nu, le, ow, fo, run, wc, lc, tr, cl, tm, ms) (yl, yc, yt, co, pa, su, sc) mc ++ R) s.heap := hP
  have hD : va_D (zAb B) (zWT cI cJ h (n, L) (kt, km, kl) (pt, pm, pl) (nu, le, ow, fo, run, wc, lc, tr, cl, tm, ms) (yl, yc, yt, co, pa, su, sc) mc ++ R) := hD
  refine lv_iload_n hx hb dX4_open_0 rfl (lv_at hl 1 rfl) ?_
  refine lv_iconst (v := 1) hx hb dX4_open_1 (by decide) ?_
  refine lv_icmp_lt (tgt := 11) hx hb dX4_open_2 (by decide) (fun c_1 => ?_) (fun c_1 => ?_)
  · skip
    exact zthrow hx hb hls hown hE hP hD hS (hl.1.trans hml.symm) ht9 hlocks (by decide +kernel) (List.mem_of_getElem? (i := 4) rfl) (by decide +kernel) (hts (.classLink RX4 50 "java/lang/IllegalArgumentException") (List.mem_of_getElem? (i := 1) rfl)) (hts (.initialized "java/lang/IllegalArgumentException") (List.mem_of_getElem? (i := 2) rfl)) (fun w h9 => hts w (List.mem_cons_of_mem _ (List.mem_append_left _ (List.mem_append_right _ h9)))) (by decide +kernel) (by decide +kernel) dX4_open_11 dX4_open_14 dX4_open_15 dX4_open_17 dX4_open_20 ⟨Nat.le_of_ble_eq_true rfl, Nat.le_of_ble_eq_true rfl, Nat.le_of_ble_eq_true rfl, Nat.le_of_ble_eq_true rfl⟩
  · skip
    refine lv_iload_n hx hb dX4_open_5 rfl (lv_at hl 1 rfl) ?_
    refine lv_bipush (v := 6) hx hb dX4_open_6 (by decide) ?_
    refine lv_icmp_le (tgt := 21) hx hb dX4_open_8 (by decide) (fun c_2 => ?_) (fun c_2 => ?_)
    · skip
      exact hi.elim (fun q => absurd q c_1) (fun q => absurd c_2 q)
    · skip
      exact zthrow hx hb hls hown hE hP hD hS (hl.1.trans hml.symm) ht9 hlocks (by decide +kernel) (List.mem_of_getElem? (i := 4) rfl) (by decide +kernel) (hts (.classLink RX4 50 "java/lang/IllegalArgumentException") (List.mem_of_getElem? (i := 1) rfl)) (hts (.initialized "java/lang/IllegalArgumentException") (List.mem_of_getElem? (i := 2) rfl)) (fun w h9 => hts w (List.mem_cons_of_mem _ (List.mem_append_left _ (List.mem_append_right _ h9)))) (by decide +kernel) (by decide +kernel) dX4_open_11 dX4_open_14 dX4_open_15 dX4_open_17 dX4_open_20 ⟨Nat.le_of_ble_eq_true rfl, Nat.le_of_ble_eq_true rfl, Nat.le_of_ble_eq_true rfl, Nat.le_of_ble_eq_true rfl⟩

set_option maxHeartbeats 4000000 in
set_option maxRecDepth 100000 in
theorem c_X4_open_x2 {l : Launch} {B kr kp : Nat} {D : va_G} {cI cJ cZ : ClassId} {h : Nat → Nat} {R : va_W} {n : Nat} {L : Nat → Int64} {kt : Nat → Int32} {km : Nat → Int32} {kl : Nat → Int32} {pt : Nat → Int32} {pm : Nat → Int32} {pl : Nat → Int32} {nu : Nat → Int32} {le : Nat → Int32} {ow : Nat → Int32} {fo : Nat → Int32} {run : Bool} {wc : Nat} {lc : Nat} {tr : Nat} {cl : Nat} {tm : Nat} {ms : Nat} {yl : Nat → Int32} {yc : Nat → Int32} {yt : Nat → Int32} {co : Nat} {pa : Int32} {su : Nat} {sc : Nat} {mc : Nat → Int32} {i : Int32}   (hls : l.stackTraces = false) (hi1 : ¬ i < 1) (hi6 : i ≤ 6) (hf : run = true ∨ n = 0) (hn : n ≤ 40) : vx_Met l yX4_open wsX4_open ({ frames := 6, cells := 1, slots := 6, locals := 82 }) (zPc B kr kp D (zTy cI cJ cZ) (zWT cI cJ h (n, L) (kt, km, kl) (pt, pm, pl) (nu, le, ow, fo, run, wc, lc, tr, cl, tm, ms) (yl, yc, yt, co, pa, su, sc) mc ++ R) [.ref (h 0), .int i]) (zQxi B D (zWT cI cJ h (n, L) (kt, km, kl) (pt, pm, pl) (nu, le, ow, fo, run, wc, lc, tr, cl, tm, ms) (yl, yc, yt, co, pa, su, sc) mc ++ R)) (zXC "java/lang/IllegalStateException" B D (zWT cI cJ h (n, L) (kt, km, kl) (pt, pm, pl) (nu, le, ow, fo, run, wc, lc, tr, cl, tm, ms) (yl, yc, yt, co, pa, su, sc) mc ++ R)) 1 6 (zAb B) := by
  refine vx_ofW (cc := cX4_open) (maxL := 4) (ret := (some .int)) (by decide) rfl ?_
  intro p e s m args below meth c s₁ B0 hml ht9 hv
  obtain ⟨rfl, hP, hD, hK, hE, hB⟩ := hv
  have hx := B0.exec
  have hb := B0.bytes
  have hr := B0.returns
  have hts := atoms_spec (ws := wsX4_open) B0.pre
  have hown : s.vm.findClass RX4 = some m.cls := findClass_of_methodNamed B0.named
  have hlocks := B0.notSynchronized
  have hA : ∀ q : Nat, s.heap.size ≤ q → zAb B q := fun q hq => Nat.le_trans hB hq
  have hS : va_S (zAb B) s.heap s.heap [] := va_S.rf
  have hl := lv_entry ([.ref (h 0), .int i]) (n := 4) (Nat.le_of_ble_eq_true rfl)
  rw [lg_entry_eq]
  generalize (lg_sl ([.ref (h 0), .int i]) ++ List.replicate (4 - (lg_sl ([.ref (h 0), .int i])).length) Slot.unset).toArray = ls at hl ⊢
  have hl : lv_has ls 4 [(0, .ref (h 0)), (1, .int i)] := hl
  have hinX4 : ∀ w ∈ wsX40, w ∈ wsX4_open := fun _ h => List.mem_cons_of_mem _ (List.mem_append_left _ (List.mem_append_left _ (List.mem_append_left _ (List.mem_append_left _ (List.mem_append_left _ (List.mem_append_right _ h))))))
  have hP : va_P D vwCl (zWT cI cJ h (n, L) (kt, km, kl) (pt, pm, pl) (nu, le, ow, fo, run, wc, lc, tr, cl, tm, ms) (yl, yc, yt, co, pa, su, sc) mc ++ R) s.heap := hP
  have hD : va_D (zAb B) (zWT cI cJ h (n, L) (kt, km, kl) (pt, pm, pl) (nu, le, ow, fo, run, wc, lc, tr, cl, tm, ms) (yl, yc, yt, co, pa, su, sc) mc ++ R) := hD
  refine lv_iload_n hx hb dX4_open_0 rfl (lv_at hl 1 rfl) ?_
  refine lv_iconst (v := 1) hx hb dX4_open_1 (by decide) ?_
  refine lv_icmp_lt (tgt := 11) hx hb dX4_open_2 (by decide) (fun c_1 => ?_) (fun c_1 => ?_)
  · skip
    exact absurd c_1 hi1
  · skip
    refine lv_iload_n hx hb dX4_open_5 rfl (lv_at hl 1 rfl) ?_
    refine lv_bipush (v := 6) hx hb dX4_open_6 (by decide) ?_
    refine lv_icmp_le (tgt := 21) hx hb dX4_open_8 (by decide) (fun c_2 => ?_) (fun c_2 => ?_)
    · skip
      refine lv_aload_n hx hb dX4_open_21 rfl (lv_at hl 0 rfl) ?_
      refine va_get (ci := 4) (v := .ref (h 11)) (C := RX4) (T := TX4) (N := 6) hx hb hts hinX4 hown hK hP 0 rfl rfl 3 (by decide) (hts (.fieldLink RX4 31 "TypingTutor" "current" "LTypingTutor$Lesson;") (List.mem_of_getElem? (i := 5) rfl)) (fun _ h9 => h9) rfl dX4_open_22 ?_
      refine zci (zrV (As := []) (rest := []) ⟨hx, hb, hml, hown, hts⟩ (zV 11 hP hD hK hE hB hS rfl rfl) (c_X2_isRunning  ) (cwV 0 hts gX4_open_X2_isRunning rfl rfl rfl hdv_X2_isRunning ⟨Nat.le_of_ble_eq_true rfl, Nat.le_of_ble_eq_true rfl⟩) rfl rfl hl.1 rfl (lv_room (Nat.le_of_ble_eq_true rfl)) dX4_open_25 ⟨Nat.le_of_ble_eq_true rfl, Nat.le_of_ble_eq_true rfl⟩) hS (fun H locs hP hD hS => ?_)
      have hP : va_P D vwCl (zWT cI cJ h (n, L) (kt, km, kl) (pt, pm, pl) (nu, le, ow, fo, run, wc, lc, tr, cl, tm, ms) (yl, yc, yt, co, pa, su, sc) mc ++ R) _ := hP
      have hD : va_D (zAb B) (zWT cI cJ h (n, L) (kt, km, kl) (pt, pm, pl) (nu, le, ow, fo, run, wc, lc, tr, cl, tm, ms) (yl, yc, yt, co, pa, su, sc) mc ++ R) := hD
      refine lv_if_ne (tgt := 41) hx hb dX4_open_28 (by decide) (fun c_3 => ?_) (fun c_3 => ?_)
      · skip
        have c_3 : run = true := zb_n c_3
        exact zthrow hx hb hls hown hE hP hD hS (hl.1.trans hml.symm) ht9 hlocks (by decide +kernel) (List.mem_of_getElem? (i := 5) rfl) (by decide +kernel) (hts (.classLink RX4 64 "java/lang/IllegalStateException") (List.mem_of_getElem? (i := 3) rfl)) (hts (.initialized "java/lang/IllegalStateException") (List.mem_of_getElem? (i := 4) rfl)) (fun w h9 => hts w (List.mem_cons_of_mem _ (List.mem_append_right _ h9))) (by decide +kernel) (by decide +kernel) dX4_open_41 dX4_open_44 dX4_open_45 dX4_open_47 dX4_open_50 ⟨Nat.le_of_ble_eq_true rfl, Nat.le_of_ble_eq_true rfl, Nat.le_of_ble_eq_true rfl, Nat.le_of_ble_eq_true rfl⟩
      · skip
        have c_3 : run = false := zb_0 c_3
        refine lv_aload_n hx hb dX4_open_31 rfl (lv_at hl 0 rfl) ?_
        refine va_get (ci := 4) (v := .ref (h 1)) (C := RX4) (T := TX4) (N := 6) hx hb hts hinX4 hown hK hP 0 rfl rfl 0 (by decide) (hts (.fieldLink RX4 12 "TypingTutor" "list" "LTypingTutor$WordList;") (List.mem_of_getElem? (i := 6) rfl)) (fun _ h9 => h9) rfl dX4_open_32 ?_
        refine zci (zrV (As := []) (rest := []) ⟨hx, hb, hml, hown, hts⟩ (zV 1 hP hD hK hE hB hS rfl rfl) (c_X3_size  ) (cwV 0 hts gX4_open_X3_size rfl rfl rfl hdv_X3_size ⟨Nat.le_of_ble_eq_true rfl, Nat.le_of_ble_eq_true rfl⟩) rfl rfl hl.1 rfl (lv_room (Nat.le_of_ble_eq_true rfl)) dX4_open_35 ⟨Nat.le_of_ble_eq_true rfl, Nat.le_of_ble_eq_true rfl⟩) hS (fun H locs hP hD hS => ?_)
        have hP : va_P D vwCl (zWT cI cJ h (n, L) (kt, km, kl) (pt, pm, pl) (nu, le, ow, fo, run, wc, lc, tr, cl, tm, ms) (yl, yc, yt, co, pa, su, sc) mc ++ R) _ := hP
        have hD : va_D (zAb B) (zWT cI cJ h (n, L) (kt, km, kl) (pt, pm, pl) (nu, le, ow, fo, run, wc, lc, tr, cl, tm, ms) (yl, yc, yt, co, pa, su, sc) mc ++ R) := hD
        refine lv_if_ne (tgt := 51) hx hb dX4_open_38 (by decide) (fun c_4 => ?_) (fun c_4 => ?_)
        · skip
          have c_4 : ¬ n = 0 := fun hh => c_4 ((nI_eq (a := n) (b := 0) (by omega) (by omega)).mpr hh)
          exact hf.elim (fun q => absurd (c_3.symm.trans q) (by decide)) (fun q => absurd q c_4)
        · skip
          have c_4 : n = 0 := (nI_eq (a := n) (b := 0) (by omega) (by omega)).mp c_4
          exact zthrow hx hb hls hown hE hP hD hS (hl.1.trans hml.symm) ht9 hlocks (by decide +kernel) (List.mem_of_getElem? (i := 5) rfl) (by decide +kernel) (hts (.classLink RX4 64 "java/lang/IllegalStateException") (List.mem_of_getElem? (i := 3) rfl)) (hts (.initialized "java/lang/IllegalStateException") (List.mem_of_getElem? (i := 4) rfl)) (fun w h9 => hts w (List.mem_cons_of_mem _ (List.mem_append_right _ h9))) (by decide +kernel) (by decide +kernel) dX4_open_41 dX4_open_44 dX4_open_45 dX4_open_47 dX4_open_50 ⟨Nat.le_of_ble_eq_true rfl, Nat.le_of_ble_eq_true rfl, Nat.le_of_ble_eq_true rfl, Nat.le_of_ble_eq_true rfl⟩
    · skip
      exact absurd hi6 c_2

set_option maxHeartbeats 4000000 in
set_option maxRecDepth 100000 in
theorem c_X4_openWord {l : Launch} {B kr kp : Nat} {D : va_G} {cI cJ cZ : ClassId} {h : Nat → Nat} {R : va_W} {n : Nat} {L : Nat → Int64} {kt : Nat → Int32} {km : Nat → Int32} {kl : Nat → Int32} {pt : Nat → Int32} {pm : Nat → Int32} {pl : Nat → Int32} {nu : Nat → Int32} {le : Nat → Int32} {ow : Nat → Int32} {fo : Nat → Int32} {run : Bool} {wc : Nat} {lc : Nat} {tr : Nat} {cl : Nat} {tm : Nat} {ms : Nat} {yl : Nat → Int32} {yc : Nat → Int32} {yt : Nat → Int32} {co : Nat} {pa : Int32} {su : Nat} {sc : Nat} {mc : Nat → Int32} {k : Nat}   (hk : k < n) (hn : n ≤ 40) (hrun : run = false) : Met l yX4_openWord wsX4_openWord ({ frames := 2, cells := 0, slots := 0, locals := 50 }) (zPc B kr kp D (zTy cI cJ cZ) (zWT cI cJ h (n, L) (kt, km, kl) (pt, pm, pl) (nu, le, ow, fo, run, wc, lc, tr, cl, tm, ms) (yl, yc, yt, co, pa, su, sc) mc ++ R) [.ref (h 0), .int (nI k)]) (zQi B D (zWT cI cJ h (n, L) (kt, km, kl) (pt, pm, pl) ((upd nu 0 (nI k)), (zale le 0 (L k) (zsz (L k))), (zaow ow 0 0 (zsz (L k))), (zafo (zfil 26 0 fo) (L k) (zsz (L k))), true, (0 + 1), (0 + zsz (L k)), 0, 0, 0, 0) (yl, yc, yt, co, pa, su, sc) mc ++ R) (nI (0 + zsz (L k)))) 0 0 (zAb B) := by
  refine Met.ofW (cc := cX4_openWord) (maxL := 2) (ret := (some .int)) (by decide) rfl ?_
  intro p e s m args below meth c s₁ B0 hml hv
  obtain ⟨rfl, hP, hD, hK, hE, hB⟩ := hv
  have hx := B0.exec
  have hb := B0.bytes
  have hr := B0.returns
  have hts := atoms_spec (ws := wsX4_openWord) B0.pre
  have hown : s.vm.findClass RX4 = some m.cls := findClass_of_methodNamed B0.named
  have hlocks := B0.notSynchronized
  have hA : ∀ q : Nat, s.heap.size ≤ q → zAb B q := fun q hq => Nat.le_trans hB hq
  have hS : va_S (zAb B) s.heap s.heap [] := va_S.rf
  have hl := lv_entry ([.ref (h 0), .int (nI k)]) (n := 2) (Nat.le_of_ble_eq_true rfl)
  rw [lg_entry_eq]
  generalize (lg_sl ([.ref (h 0), .int (nI k)]) ++ List.replicate (2 - (lg_sl ([.ref (h 0), .int (nI k)])).length) Slot.unset).toArray = ls at hl ⊢
  have hl : lv_has ls 2 [(0, .ref (h 0)), (1, .int (nI k))] := hl
  have hinX4 : ∀ w ∈ wsX40, w ∈ wsX4_openWord := fun _ h => List.mem_cons_of_mem _ (List.mem_append_left _ (List.mem_append_left _ (List.mem_append_left _ (List.mem_append_left _ (List.mem_append_right _ h)))))
  have hP : va_P D vwCl (zWT cI cJ h (n, L) (kt, km, kl) (pt, pm, pl) (nu, le, ow, fo, run, wc, lc, tr, cl, tm, ms) (yl, yc, yt, co, pa, su, sc) mc ++ R) s.heap := hP
  have hD : va_D (zAb B) (zWT cI cJ h (n, L) (kt, km, kl) (pt, pm, pl) (nu, le, ow, fo, run, wc, lc, tr, cl, tm, ms) (yl, yc, yt, co, pa, su, sc) mc ++ R) := hD
  refine lv_aload_n hx hb dX4_openWord_0 rfl (lv_at hl 0 rfl) ?_
  refine va_get (ci := 4) (v := .ref (h 1)) (C := RX4) (T := TX4) (N := 6) hx hb hts hinX4 hown hK hP 0 rfl rfl 0 (by decide) (hts (.fieldLink RX4 12 "TypingTutor" "list" "LTypingTutor$WordList;") (List.mem_of_getElem? (i := 5) rfl)) (fun _ h9 => h9) rfl dX4_openWord_1 ?_
  refine lv_iload_n hx hb dX4_openWord_4 rfl (lv_at hl 1 rfl) ?_
  refine zci (zrV (As := [.int (nI k)]) (rest := []) ⟨hx, hb, hml, hown, hts⟩ (zV 1 hP hD hK hE hB hS rfl rfl) (c_X3_hasNumber (k := k) (by omega) (by omega)) (cwV 1 hts gX4_openWord_X3_hasNumber rfl rfl rfl hdv_X3_hasNumber ⟨Nat.le_of_ble_eq_true rfl, Nat.le_of_ble_eq_true rfl⟩) rfl rfl hl.1 rfl (lv_room (Nat.le_of_ble_eq_true rfl)) dX4_openWord_5 ⟨Nat.le_of_ble_eq_true rfl, Nat.le_of_ble_eq_true rfl⟩) hS (fun H locs hP hD hS => ?_)
  have hP : va_P D vwCl (zWT cI cJ h (n, L) (kt, km, kl) (pt, pm, pl) (nu, le, ow, fo, run, wc, lc, tr, cl, tm, ms) (yl, yc, yt, co, pa, su, sc) mc ++ R) _ := hP
  have hD : va_D (zAb B) (zWT cI cJ h (n, L) (kt, km, kl) (pt, pm, pl) (nu, le, ow, fo, run, wc, lc, tr, cl, tm, ms) (yl, yc, yt, co, pa, su, sc) mc ++ R) := hD
  refine lv_if_ne (tgt := 21) hx hb dX4_openWord_8 (by decide) (fun c_1 => ?_) (fun c_1 => ?_)
  · skip
    refine lv_aload_n hx hb dX4_openWord_21 rfl (lv_at hl 0 rfl) ?_
    refine va_get (ci := 4) (v := .ref (h 11)) (C := RX4) (T := TX4) (N := 6) hx hb hts hinX4 hown hK hP 0 rfl rfl 3 (by decide) (hts (.fieldLink RX4 31 "TypingTutor" "current" "LTypingTutor$Lesson;") (List.mem_of_getElem? (i := 6) rfl)) (fun _ h9 => h9) rfl dX4_openWord_22 ?_
    refine zci (zrV (As := []) (rest := []) ⟨hx, hb, hml, hown, hts⟩ (zV 11 hP hD hK hE hB hS rfl rfl) (c_X2_isRunning  ) (cwV 0 hts gX4_openWord_X2_isRunning rfl rfl rfl hdv_X2_isRunning ⟨Nat.le_of_ble_eq_true rfl, Nat.le_of_ble_eq_true rfl⟩) rfl rfl hl.1 rfl (lv_room (Nat.le_of_ble_eq_true rfl)) dX4_openWord_25 ⟨Nat.le_of_ble_eq_true rfl, Nat.le_of_ble_eq_true rfl⟩) hS (fun H locs hP hD hS => ?_)
    have hP : va_P D vwCl (zWT cI cJ h (n, L) (kt, km, kl) (pt, pm, pl) (nu, le, ow, fo, run, wc, lc, tr, cl, tm, ms) (yl, yc, yt, co, pa, su, sc) mc ++ R) _ := hP
    have hD : va_D (zAb B) (zWT cI cJ h (n, L) (kt, km, kl) (pt, pm, pl) (nu, le, ow, fo, run, wc, lc, tr, cl, tm, ms) (yl, yc, yt, co, pa, su, sc) mc ++ R) := hD
    refine lv_if_eq (tgt := 41) hx hb dX4_openWord_28 (by decide) (fun c_2 => ?_) (fun c_2 => ?_)
    · skip
      have c_2 : run = false := zb_0 c_2
      refine lv_aload_n hx hb dX4_openWord_41 rfl (lv_at hl 0 rfl) ?_
      refine va_get (ci := 4) (v := .ref (h 11)) (C := RX4) (T := TX4) (N := 6) hx hb hts hinX4 hown hK hP 0 rfl rfl 3 (by decide) (hts (.fieldLink RX4 31 "TypingTutor" "current" "LTypingTutor$Lesson;") (List.mem_of_getElem? (i := 6) rfl)) (fun _ h9 => h9) rfl dX4_openWord_42 ?_
      refine zcv (zrV (As := []) (rest := []) ⟨hx, hb, hml, hown, hts⟩ (zV 11 hP hD hK hE hB hS rfl rfl) (c_X2_start  ) (cwV 0 hts gX4_openWord_X2_start rfl rfl rfl hdv_X2_start ⟨Nat.le_of_ble_eq_true rfl, Nat.le_of_ble_eq_true rfl⟩) rfl rfl hl.1 rfl (lv_room (Nat.le_of_ble_eq_true rfl)) dX4_openWord_45 ⟨Nat.le_of_ble_eq_true rfl, Nat.le_of_ble_eq_true rfl⟩) hS (fun H locs hP hD hS => ?_)
      have hP : va_P D vwCl (zWT cI cJ h (n, L) (kt, km, kl) (pt, pm, pl) (nu, le, ow, (zfil 26 0 fo), true, 0, 0, 0, 0, 0, 0) (yl, yc, yt, co, pa, su, sc) mc ++ R) _ := hP
      have hD : va_D (zAb B) (zWT cI cJ h (n, L) (kt, km, kl) (pt, pm, pl) (nu, le, ow, (zfil 26 0 fo), true, 0, 0, 0, 0, 0, 0) (yl, yc, yt, co, pa, su, sc) mc ++ R) := hD
      refine lv_aload_n hx hb dX4_openWord_48 rfl (lv_at hl 0 rfl) ?_
      refine va_get (ci := 4) (v := .ref (h 11)) (C := RX4) (T := TX4) (N := 6) hx hb hts hinX4 hown hK hP 0 rfl rfl 3 (by decide) (hts (.fieldLink RX4 31 "TypingTutor" "current" "LTypingTutor$Lesson;") (List.mem_of_getElem? (i := 6) rfl)) (fun _ h9 => h9) rfl dX4_openWord_49 ?_
      refine lv_iload_n hx hb dX4_openWord_52 rfl (lv_at hl 1 rfl) ?_
      refine lv_aload_n hx hb dX4_openWord_53 rfl (lv_at hl 0 rfl) ?_
      refine va_get (ci := 4) (v := .ref (h 1)) (C := RX4) (T := TX4) (N := 6) hx hb hts hinX4 hown hK hP 0 rfl rfl 0 (by decide) (hts (.fieldLink RX4 12 "TypingTutor" "list" "LTypingTutor$WordList;") (List.mem_of_getElem? (i := 5) rfl)) (fun _ h9 => h9) rfl dX4_openWord_54 ?_
      refine lv_iload_n hx hb dX4_openWord_57 rfl (lv_at hl 1 rfl) ?_
      refine zcl (zrV (As := [.int (nI k)]) (rest := [.int (nI k), .ref (h 11)]) ⟨hx, hb, hml, hown, hts⟩ (zV 1 hP hD hK hE hB hS rfl rfl) (c_X3_wordAt (k := k) (by omega)) (cwV 1 hts gX4_openWord_X3_wordAt rfl rfl rfl hdv_X3_wordAt ⟨Nat.le_of_ble_eq_true rfl, Nat.le_of_ble_eq_true rfl⟩) rfl rfl hl.1 rfl (lv_room (Nat.le_of_ble_eq_true rfl)) dX4_openWord_58 ⟨Nat.le_of_ble_eq_true rfl, Nat.le_of_ble_eq_true rfl⟩) hS (fun H locs hP hD hS => ?_)
      have hP : va_P D vwCl (zWT cI cJ h (n, L) (kt, km, kl) (pt, pm, pl) (nu, le, ow, (zfil 26 0 fo), true, 0, 0, 0, 0, 0, 0) (yl, yc, yt, co, pa, su, sc) mc ++ R) _ := hP
      have hD : va_D (zAb B) (zWT cI cJ h (n, L) (kt, km, kl) (pt, pm, pl) (nu, le, ow, (zfil 26 0 fo), true, 0, 0, 0, 0, 0, 0) (yl, yc, yt, co, pa, su, sc) mc ++ R) := hD
      refine zcv (zrV (As := [.int (nI k), .long (L k)]) (rest := []) ⟨hx, hb, hml, hown, hts⟩ (zV 11 hP hD hK hE hB hS rfl rfl) (c_X2_append  (by omega) (by have := zsz_le (L k); omega)) (cwV 2 hts gX4_openWord_X2_append rfl rfl rfl hdv_X2_append ⟨Nat.le_of_ble_eq_true rfl, Nat.le_of_ble_eq_true rfl⟩) rfl rfl hl.1 rfl (lv_room (Nat.le_of_ble_eq_true rfl)) dX4_openWord_61 ⟨Nat.le_of_ble_eq_true rfl, Nat.le_of_ble_eq_true rfl⟩) hS (fun H locs hP hD hS => ?_)
      have hP : va_P D vwCl (zWT cI cJ h (n, L) (kt, km, kl) (pt, pm, pl) ((upd nu 0 (nI k)), (zale le 0 (L k) (zsz (L k))), (zaow ow 0 0 (zsz (L k))), (zafo (zfil 26 0 fo) (L k) (zsz (L k))), true, (0 + 1), (0 + zsz (L k)), 0, 0, 0, 0) (yl, yc, yt, co, pa, su, sc) mc ++ R) _ := hP
      have hD : va_D (zAb B) (zWT cI cJ h (n, L) (kt, km, kl) (pt, pm, pl) ((upd nu 0 (nI k)), (zale le 0 (L k) (zsz (L k))), (zaow ow 0 0 (zsz (L k))), (zafo (zfil 26 0 fo) (L k) (zsz (L k))), true, (0 + 1), (0 + zsz (L k)), 0, 0, 0, 0) (yl, yc, yt, co, pa, su, sc) mc ++ R) := hD
      refine lv_aload_n hx hb dX4_openWord_64 rfl (lv_at hl 0 rfl) ?_
      refine va_get (ci := 4) (v := .ref (h 11)) (C := RX4) (T := TX4) (N := 6) hx hb hts hinX4 hown hK hP 0 rfl rfl 3 (by decide) (hts (.fieldLink RX4 31 "TypingTutor" "current" "LTypingTutor$Lesson;") (List.mem_of_getElem? (i := 6) rfl)) (fun _ h9 => h9) rfl dX4_openWord_65 ?_
      refine zci (zrV (As := []) (rest := []) ⟨hx, hb, hml, hown, hts⟩ (zV 11 hP hD hK hE hB hS rfl rfl) (c_X2_letterTotal  ) (cwV 0 hts gX4_openWord_X2_letterTotal rfl rfl rfl hdv_X2_letterTotal ⟨Nat.le_of_ble_eq_true rfl, Nat.le_of_ble_eq_true rfl⟩) rfl rfl hl.1 rfl (lv_room (Nat.le_of_ble_eq_true rfl)) dX4_openWord_68 ⟨Nat.le_of_ble_eq_true rfl, Nat.le_of_ble_eq_true rfl⟩) hS (fun H locs hP hD hS => ?_)
      have hP : va_P D vwCl (zWT cI cJ h (n, L) (kt, km, kl) (pt, pm, pl) ((upd nu 0 (nI k)), (zale le 0 (L k) (zsz (L k))), (zaow ow 0 0 (zsz (L k))), (zafo (zfil 26 0 fo) (L k) (zsz (L k))), true, (0 + 1), (0 + zsz (L k)), 0, 0, 0, 0) (yl, yc, yt, co, pa, su, sc) mc ++ R) _ := hP
      have hD : va_D (zAb B) (zWT cI cJ h (n, L) (kt, km, kl) (pt, pm, pl) ((upd nu 0 (nI k)), (zale le 0 (L k) (zsz (L k))), (zaow ow 0 0 (zsz (L k))), (zafo (zfil 26 0 fo) (L k) (zsz (L k))), true, (0 + 1), (0 + zsz (L k)), 0, 0, 0, 0) (yl, yc, yt, co, pa, su, sc) mc ++ R) := hD
      exact W.iret (v := (nI (0 + zsz (L k)))) hx hb hr (fun t ht hW => ⟨⟨_, (), rfl, rfl, by rw [ht]; exact hP, hD⟩, hS.F ht⟩) hS.2.2 dX4_openWord_71
    · skip
      have c_2 : run = true := zb_n c_2
      exact absurd (c_2.symm.trans hrun) (by decide)
  · skip
    exfalso; first | omega | (revert c_1; decide) | (exact absurd rfl c_1) | simp_all

set_option maxHeartbeats 4000000 in
set_option maxRecDepth 100000 in
theorem c_X4_openWord_x1 {l : Launch} {B kr kp : Nat} {D : va_G} {cI cJ cZ : ClassId} {h : Nat → Nat} {R : va_W} {n : Nat} {L : Nat → Int64} {kt : Nat → Int32} {km : Nat → Int32} {kl : Nat → Int32} {pt : Nat → Int32} {pm : Nat → Int32} {pl : Nat → Int32} {nu : Nat → Int32} {le : Nat → Int32} {ow : Nat → Int32} {fo : Nat → Int32} {run : Bool} {wc : Nat} {lc : Nat} {tr : Nat} {cl : Nat} {tm : Nat} {ms : Nat} {yl : Nat → Int32} {yc : Nat → Int32} {yt : Nat → Int32} {co : Nat} {pa : Int32} {su : Nat} {sc : Nat} {mc : Nat → Int32} {i : Int32}   (hls : l.stackTraces = false) (hi : i < 0 ∨ nI n ≤ i) (hn : n ≤ 40) : vx_Met l yX4_openWord wsX4_openWord ({ frames := 6, cells := 1, slots := 6, locals := 82 }) (zPc B kr kp D (zTy cI cJ cZ) (zWT cI cJ h (n, L) (kt, km, kl) (pt, pm, pl) (nu, le, ow, fo, run, wc, lc, tr, cl, tm, ms) (yl, yc, yt, co, pa, su, sc) mc ++ R) [.ref (h 0), .int i]) (zQxi B D (zWT cI cJ h (n, L) (kt, km, kl) (pt, pm, pl) (nu, le, ow, fo, run, wc, lc, tr, cl, tm, ms) (yl, yc, yt, co, pa, su, sc) mc ++ R)) (zXC "java/lang/IndexOutOfBoundsException" B D (zWT cI cJ h (n, L) (kt, km, kl) (pt, pm, pl) (nu, le, ow, fo, run, wc, lc, tr, cl, tm, ms) (yl, yc, yt, co, pa, su, sc) mc ++ R)) 1 6 (zAb B) := by
  refine vx_ofW (cc := cX4_openWord) (maxL := 2) (ret := (some .int)) (by decide) rfl ?_
  intro p e s m args below meth c s₁ B0 hml ht9 hv
  obtain ⟨rfl, hP, hD, hK, hE, hB⟩ := hv
  have hx := B0.exec
  have hb := B0.bytes
  have hr := B0.returns
  have hts := atoms_spec (ws := wsX4_openWord) B0.pre
  have hown : s.vm.findClass RX4 = some m.cls := findClass_of_methodNamed B0.named
  have hlocks := B0.notSynchronized
  have hA : ∀ q : Nat, s.heap.size ≤ q → zAb B q := fun q hq => Nat.le_trans hB hq
  have hS : va_S (zAb B) s.heap s.heap [] := va_S.rf
  have hl := lv_entry ([.ref (h 0), .int i]) (n := 2) (Nat.le_of_ble_eq_true rfl)
  rw [lg_entry_eq]
  generalize (lg_sl ([.ref (h 0), .int i]) ++ List.replicate (2 - (lg_sl ([.ref (h 0), .int i])).length) Slot.unset).toArray = ls at hl ⊢
  have hl : lv_has ls 2 [(0, .ref (h 0)), (1, .int i)] := hl
  have hinX4 : ∀ w ∈ wsX40, w ∈ wsX4_openWord := fun _ h => List.mem_cons_of_mem _ (List.mem_append_left _ (List.mem_append_left _ (List.mem_append_left _ (List.mem_append_left _ (List.mem_append_right _ h)))))
  have hP : va_P D vwCl (zWT cI cJ h (n, L) (kt, km, kl) (pt, pm, pl) (nu, le, ow, fo, run, wc, lc, tr, cl, tm, ms) (yl, yc, yt, co, pa, su, sc) mc ++ R) s.heap := hP
  have hD : va_D (zAb B) (zWT cI cJ h (n, L) (kt, km, kl) (pt, pm, pl) (nu, le, ow, fo, run, wc, lc, tr, cl, tm, ms) (yl, yc, yt, co, pa, su, sc) mc ++ R) := hD
  refine lv_aload_n hx hb dX4_openWord_0 rfl (lv_at hl 0 rfl) ?_
  refine va_get (ci := 4) (v := .ref (h 1)) (C := RX4) (T := TX4) (N := 6) hx hb hts hinX4 hown hK hP 0 rfl rfl 0 (by decide) (hts (.fieldLink RX4 12 "TypingTutor" "list" "LTypingTutor$WordList;") (List.mem_of_getElem? (i := 5) rfl)) (fun _ h9 => h9) rfl dX4_openWord_1 ?_
  refine lv_iload_n hx hb dX4_openWord_4 rfl (lv_at hl 1 rfl) ?_
  refine zci (zrV (As := [.int i]) (rest := []) ⟨hx, hb, hml, hown, hts⟩ (zV 1 hP hD hK hE hB hS rfl rfl) (c_X3_hasNumber_x  (hi) (hn)) (cwV 1 hts gX4_openWord_X3_hasNumber rfl rfl rfl hdv_X3_hasNumber ⟨Nat.le_of_ble_eq_true rfl, Nat.le_of_ble_eq_true rfl⟩) rfl rfl hl.1 rfl (lv_room (Nat.le_of_ble_eq_true rfl)) dX4_openWord_5 ⟨Nat.le_of_ble_eq_true rfl, Nat.le_of_ble_eq_true rfl⟩) hS (fun H locs hP hD hS => ?_)
  have hP : va_P D vwCl (zWT cI cJ h (n, L) (kt, km, kl) (pt, pm, pl) (nu, le, ow, fo, run, wc, lc, tr, cl, tm, ms) (yl, yc, yt, co, pa, su, sc) mc ++ R) _ := hP
  have hD : va_D (zAb B) (zWT cI cJ h (n, L) (kt, km, kl) (pt, pm, pl) (nu, le, ow, fo, run, wc, lc, tr, cl, tm, ms) (yl, yc, yt, co, pa, su, sc) mc ++ R) := hD
  refine lv_if_ne (tgt := 21) hx hb dX4_openWord_8 (by decide) (fun c_1 => ?_) (fun c_1 => ?_)
  · skip
    exfalso; first | omega | (revert c_1; decide) | (exact absurd rfl c_1) | simp_all
  · skip
    exact zthrow hx hb hls hown hE hP hD hS (hl.1.trans hml.symm) ht9 hlocks (by decide +kernel) (List.mem_of_getElem? (i := 2) rfl) (by decide +kernel) (hts (.classLink RX4 81 "java/lang/IndexOutOfBoundsException") (List.mem_of_getElem? (i := 1) rfl)) (hts (.initialized "java/lang/IndexOutOfBoundsException") (List.mem_of_getElem? (i := 2) rfl)) (fun w h9 => hts w (List.mem_cons_of_mem _ (List.mem_append_left _ (List.mem_append_right _ h9)))) (by decide +kernel) (by decide +kernel) dX4_openWord_11 dX4_openWord_14 dX4_openWord_15 dX4_openWord_17 dX4_openWord_20 ⟨Nat.le_of_ble_eq_true rfl, Nat.le_of_ble_eq_true rfl, Nat.le_of_ble_eq_true rfl, Nat.le_of_ble_eq_true rfl⟩

set_option maxHeartbeats 4000000 in
set_option maxRecDepth 100000 in
theorem c_X4_openWord_x2 {l : Launch} {B kr kp : Nat} {D : va_G} {cI cJ cZ : ClassId} {h : Nat → Nat} {R : va_W} {n : Nat} {L : Nat → Int64} {kt : Nat → Int32} {km : Nat → Int32} {kl : Nat → Int32} {pt : Nat → Int32} {pm : Nat → Int32} {pl : Nat → Int32} {nu : Nat → Int32} {le : Nat → Int32} {ow : Nat → Int32} {fo : Nat → Int32} {run : Bool} {wc : Nat} {lc : Nat} {tr : Nat} {cl : Nat} {tm : Nat} {ms : Nat} {yl : Nat → Int32} {yc : Nat → Int32} {yt : Nat → Int32} {co : Nat} {pa : Int32} {su : Nat} {sc : Nat} {mc : Nat → Int32} {k : Nat}   (hls : l.stackTraces = false) (hk : k < n) (hn : n ≤ 40) (hrun : run = true) : vx_Met l yX4_openWord wsX4_openWord ({ frames := 6, cells := 1, slots := 6, locals := 82 }) (zPc B kr kp D (zTy cI cJ cZ) (zWT cI cJ h (n, L) (kt, km, kl) (pt, pm, pl) (nu, le, ow, fo, run, wc, lc, tr, cl, tm, ms) (yl, yc, yt, co, pa, su, sc) mc ++ R) [.ref (h 0), .int (nI k)]) (zQxi B D (zWT cI cJ h (n, L) (kt, km, kl) (pt, pm, pl) (nu, le, ow, fo, run, wc, lc, tr, cl, tm, ms) (yl, yc, yt, co, pa, su, sc) mc ++ R)) (zXC "java/lang/IllegalStateException" B D (zWT cI cJ h (n, L) (kt, km, kl) (pt, pm, pl) (nu, le, ow, fo, run, wc, lc, tr, cl, tm, ms) (yl, yc, yt, co, pa, su, sc) mc ++ R)) 1 6 (zAb B) := by
  refine vx_ofW (cc := cX4_openWord) (maxL := 2) (ret := (some .int)) (by decide) rfl ?_
  intro p e s m args below meth c s₁ B0 hml ht9 hv
  obtain ⟨rfl, hP, hD, hK, hE, hB⟩ := hv
  have hx := B0.exec
  have hb := B0.bytes
  have hr := B0.returns
  have hts := atoms_spec (ws := wsX4_openWord) B0.pre
  have hown : s.vm.findClass RX4 = some m.cls := findClass_of_methodNamed B0.named
  have hlocks := B0.notSynchronized
  have hA : ∀ q : Nat, s.heap.size ≤ q → zAb B q := fun q hq => Nat.le_trans hB hq
  have hS : va_S (zAb B) s.heap s.heap [] := va_S.rf
  have hl := lv_entry ([.ref (h 0), .int (nI k)]) (n := 2) (Nat.le_of_ble_eq_true rfl)
  rw [lg_entry_eq]
  generalize (lg_sl ([.ref (h 0), .int (nI k)]) ++ List.replicate (2 - (lg_sl ([.ref (h 0), .int (nI k)])).length) Slot.unset).toArray = ls at hl ⊢
  have hl : lv_has ls 2 [(0, .ref (h 0)), (1, .int (nI k))] := hl
  have hinX4 : ∀ w ∈ wsX40, w ∈ wsX4_openWord := fun _ h => List.mem_cons_of_mem _ (List.mem_append_left _ (List.mem_append_left _ (List.mem_append_left _ (List.mem_append_left _ (List.mem_append_right _ h)))))
  have hP : va_P D vwCl (zWT cI cJ h (n, L) (kt, km, kl) (pt, pm, pl) (nu, le, ow, fo, run, wc, lc, tr, cl, tm, ms) (yl, yc, yt, co, pa, su, sc) mc ++ R) s.heap := hP
  have hD : va_D (zAb B) (zWT cI cJ h (n, L) (kt, km, kl) (pt, pm, pl) (nu, le, ow, fo, run, wc, lc, tr, cl, tm, ms) (yl, yc, yt, co, pa, su, sc) mc ++ R) := hD
  refine lv_aload_n hx hb dX4_openWord_0 rfl (lv_at hl 0 rfl) ?_
  refine va_get (ci := 4) (v := .ref (h 1)) (C := RX4) (T := TX4) (N := 6) hx hb hts hinX4 hown hK hP 0 rfl rfl 0 (by decide) (hts (.fieldLink RX4 12 "TypingTutor" "list" "LTypingTutor$WordList;") (List.mem_of_getElem? (i := 5) rfl)) (fun _ h9 => h9) rfl dX4_openWord_1 ?_
  refine lv_iload_n hx hb dX4_openWord_4 rfl (lv_at hl 1 rfl) ?_
  refine zci (zrV (As := [.int (nI k)]) (rest := []) ⟨hx, hb, hml, hown, hts⟩ (zV 1 hP hD hK hE hB hS rfl rfl) (c_X3_hasNumber (k := k) (by omega) (by omega)) (cwV 1 hts gX4_openWord_X3_hasNumber rfl rfl rfl hdv_X3_hasNumber ⟨Nat.le_of_ble_eq_true rfl, Nat.le_of_ble_eq_true rfl⟩) rfl rfl hl.1 rfl (lv_room (Nat.le_of_ble_eq_true rfl)) dX4_openWord_5 ⟨Nat.le_of_ble_eq_true rfl, Nat.le_of_ble_eq_true rfl⟩) hS (fun H locs hP hD hS => ?_)
  have hP : va_P D vwCl (zWT cI cJ h (n, L) (kt, km, kl) (pt, pm, pl) (nu, le, ow, fo, run, wc, lc, tr, cl, tm, ms) (yl, yc, yt, co, pa, su, sc) mc ++ R) _ := hP
  have hD : va_D (zAb B) (zWT cI cJ h (n, L) (kt, km, kl) (pt, pm, pl) (nu, le, ow, fo, run, wc, lc, tr, cl, tm, ms) (yl, yc, yt, co, pa, su, sc) mc ++ R) := hD
  refine lv_if_ne (tgt := 21) hx hb dX4_openWord_8 (by decide) (fun c_1 => ?_) (fun c_1 => ?_)
  · skip
    refine lv_aload_n hx hb dX4_openWord_21 rfl (lv_at hl 0 rfl) ?_
    refine va_get (ci := 4) (v := .ref (h 11)) (C := RX4) (T := TX4) (N := 6) hx hb hts hinX4 hown hK hP 0 rfl rfl 3 (by decide) (hts (.fieldLink RX4 31 "TypingTutor" "current" "LTypingTutor$Lesson;") (List.mem_of_getElem? (i := 6) rfl)) (fun _ h9 => h9) rfl dX4_openWord_22 ?_
    refine zci (zrV (As := []) (rest := []) ⟨hx, hb, hml, hown, hts⟩ (zV 11 hP hD hK hE hB hS rfl rfl) (c_X2_isRunning  ) (cwV 0 hts gX4_openWord_X2_isRunning rfl rfl rfl hdv_X2_isRunning ⟨Nat.le_of_ble_eq_true rfl, Nat.le_of_ble_eq_true rfl⟩) rfl rfl hl.1 rfl (lv_room (Nat.le_of_ble_eq_true rfl)) dX4_openWord_25 ⟨Nat.le_of_ble_eq_true rfl, Nat.le_of_ble_eq_true rfl⟩) hS (fun H locs hP hD hS => ?_)
    have hP : va_P D vwCl (zWT cI cJ h (n, L) (kt, km, kl) (pt, pm, pl) (nu, le, ow, fo, run, wc, lc, tr, cl, tm, ms) (yl, yc, yt, co, pa, su, sc) mc ++ R) _ := hP
    have hD : va_D (zAb B) (zWT cI cJ h (n, L) (kt, km, kl) (pt, pm, pl) (nu, le, ow, fo, run, wc, lc, tr, cl, tm, ms) (yl, yc, yt, co, pa, su, sc) mc ++ R) := hD
    refine lv_if_eq (tgt := 41) hx hb dX4_openWord_28 (by decide) (fun c_2 => ?_) (fun c_2 => ?_)
    · skip
      have c_2 : run = false := zb_0 c_2
      exact absurd (c_2.symm.trans hrun) (by decide)
    · skip
      have c_2 : run = true := zb_n c_2
      exact zthrow hx hb hls hown hE hP hD hS (hl.1.trans hml.symm) ht9 hlocks (by decide +kernel) (List.mem_of_getElem? (i := 6) rfl) (by decide +kernel) (hts (.classLink RX4 64 "java/lang/IllegalStateException") (List.mem_of_getElem? (i := 3) rfl)) (hts (.initialized "java/lang/IllegalStateException") (List.mem_of_getElem? (i := 4) rfl)) (fun w h9 => hts w (List.mem_cons_of_mem _ (List.mem_append_right _ h9))) (by decide +kernel) (by decide +kernel) dX4_openWord_31 dX4_openWord_34 dX4_openWord_35 dX4_openWord_37 dX4_openWord_40 ⟨Nat.le_of_ble_eq_true rfl, Nat.le_of_ble_eq_true rfl, Nat.le_of_ble_eq_true rfl, Nat.le_of_ble_eq_true rfl⟩
  · skip
    exfalso; first | omega | (revert c_1; decide) | (exact absurd rfl c_1) | simp_all

set_option maxHeartbeats 4000000 in
set_option maxRecDepth 100000 in
theorem c_X4_giveUp {l : Launch} {B kr kp : Nat} {D : va_G} {cI cJ cZ : ClassId} {h : Nat → Nat} {R : va_W} {n : Nat} {L : Nat → Int64} {kt : Nat → Int32} {km : Nat → Int32} {kl : Nat → Int32} {pt : Nat → Int32} {pm : Nat → Int32} {pl : Nat → Int32} {nu : Nat → Int32} {le : Nat → Int32} {ow : Nat → Int32} {fo : Nat → Int32} {run : Bool} {wc : Nat} {lc : Nat} {tr : Nat} {cl : Nat} {tm : Nat} {ms : Nat} {yl : Nat → Int32} {yc : Nat → Int32} {yt : Nat → Int32} {co : Nat} {pa : Int32} {su : Nat} {sc : Nat} {mc : Nat → Int32}    (hrun : run = true) (htr : tr ≤ lc) : Met l yX4_giveUp wsX4_giveUp ({ frames := 1, cells := 0, slots := 0, locals := 20 }) (zPc B kr kp D (zTy cI cJ cZ) (zWT cI cJ h (n, L) (kt, km, kl) (pt, pm, pl) (nu, le, ow, fo, run, wc, lc, tr, cl, tm, ms) (yl, yc, yt, co, pa, su, sc) mc ++ R) [.ref (h 0)]) (zQi B D (zWT cI cJ h (n, L) (kt, km, kl) (pt, pm, pl) (nu, le, ow, fo, false, wc, lc, tr, cl, tm, ms) (yl, yc, yt, co, pa, su, sc) mc ++ R) (nI (lc - tr))) 0 0 (zAb B) := by
  refine Met.ofW (cc := cX4_giveUp) (maxL := 1) (ret := (some .int)) (by decide) rfl ?_
  intro p e s m args below meth c s₁ B0 hml hv
  obtain ⟨rfl, hP, hD, hK, hE, hB⟩ := hv
  have hx := B0.exec
  have hb := B0.bytes
  have hr := B0.returns
  have hts := atoms_spec (ws := wsX4_giveUp) B0.pre
  have hown : s.vm.findClass RX4 = some m.cls := findClass_of_methodNamed B0.named
  have hlocks := B0.notSynchronized
  have hA : ∀ q : Nat, s.heap.size ≤ q → zAb B q := fun q hq => Nat.le_trans hB hq
  have hS : va_S (zAb B) s.heap s.heap [] := va_S.rf
  have hl := lv_entry ([.ref (h 0)]) (n := 1) (Nat.le_of_ble_eq_true rfl)
  rw [lg_entry_eq]
  generalize (lg_sl ([.ref (h 0)]) ++ List.replicate (1 - (lg_sl ([.ref (h 0)])).length) Slot.unset).toArray = ls at hl ⊢
  have hl : lv_has ls 1 [(0, .ref (h 0))] := hl
  have hinX4 : ∀ w ∈ wsX40, w ∈ wsX4_giveUp := fun _ h => List.mem_cons_of_mem _ (List.mem_append_left _ (List.mem_append_left _ (List.mem_append_right _ h)))
  have hP : va_P D vwCl (zWT cI cJ h (n, L) (kt, km, kl) (pt, pm, pl) (nu, le, ow, fo, run, wc, lc, tr, cl, tm, ms) (yl, yc, yt, co, pa, su, sc) mc ++ R) s.heap := hP
  have hD : va_D (zAb B) (zWT cI cJ h (n, L) (kt, km, kl) (pt, pm, pl) (nu, le, ow, fo, run, wc, lc, tr, cl, tm, ms) (yl, yc, yt, co, pa, su, sc) mc ++ R) := hD
  refine lv_aload_n hx hb dX4_giveUp_0 rfl (lv_at hl 0 rfl) ?_
  refine va_get (ci := 4) (v := .ref (h 11)) (C := RX4) (T := TX4) (N := 6) hx hb hts hinX4 hown hK hP 0 rfl rfl 3 (by decide) (hts (.fieldLink RX4 31 "TypingTutor" "current" "LTypingTutor$Lesson;") (List.mem_of_getElem? (i := 3) rfl)) (fun _ h9 => h9) rfl dX4_giveUp_1 ?_
  refine zci (zrV (As := []) (rest := []) ⟨hx, hb, hml, hown, hts⟩ (zV 11 hP hD hK hE hB hS rfl rfl) (c_X2_isRunning  ) (cwV 0 hts gX4_giveUp_X2_isRunning rfl rfl rfl hdv_X2_isRunning ⟨Nat.le_of_ble_eq_true rfl, Nat.le_of_ble_eq_true rfl⟩) rfl rfl hl.1 rfl (lv_room (Nat.le_of_ble_eq_true rfl)) dX4_giveUp_4 ⟨Nat.le_of_ble_eq_true rfl, Nat.le_of_ble_eq_true rfl⟩) hS (fun H locs hP hD hS => ?_)
  have hP : va_P D vwCl (zWT cI cJ h (n, L) (kt, km, kl) (pt, pm, pl) (nu, le, ow, fo, run, wc, lc, tr, cl, tm, ms) (yl, yc, yt, co, pa, su, sc) mc ++ R) _ := hP
  have hD : va_D (zAb B) (zWT cI cJ h (n, L) (kt, km, kl) (pt, pm, pl) (nu, le, ow, fo, run, wc, lc, tr, cl, tm, ms) (yl, yc, yt, co, pa, su, sc) mc ++ R) := hD
  refine lv_if_ne (tgt := 20) hx hb dX4_giveUp_7 (by decide) (fun c_1 => ?_) (fun c_1 => ?_)
  · skip
    have c_1 : run = true := zb_n c_1
    refine lv_aload_n hx hb dX4_giveUp_20 rfl (lv_at hl 0 rfl) ?_
    refine va_get (ci := 4) (v := .ref (h 11)) (C := RX4) (T := TX4) (N := 6) hx hb hts hinX4 hown hK hP 0 rfl rfl 3 (by decide) (hts (.fieldLink RX4 31 "TypingTutor" "current" "LTypingTutor$Lesson;") (List.mem_of_getElem? (i := 3) rfl)) (fun _ h9 => h9) rfl dX4_giveUp_21 ?_
    refine zcv (zrV (As := []) (rest := []) ⟨hx, hb, hml, hown, hts⟩ (zV 11 hP hD hK hE hB hS rfl rfl) (c_X2_stop  ) (cwV 0 hts gX4_giveUp_X2_stop rfl rfl rfl hdv_X2_stop ⟨Nat.le_of_ble_eq_true rfl, Nat.le_of_ble_eq_true rfl⟩) rfl rfl hl.1 rfl (lv_room (Nat.le_of_ble_eq_true rfl)) dX4_giveUp_24 ⟨Nat.le_of_ble_eq_true rfl, Nat.le_of_ble_eq_true rfl⟩) hS (fun H locs hP hD hS => ?_)
    have hP : va_P D vwCl (zWT cI cJ h (n, L) (kt, km, kl) (pt, pm, pl) (nu, le, ow, fo, false, wc, lc, tr, cl, tm, ms) (yl, yc, yt, co, pa, su, sc) mc ++ R) _ := hP
    have hD : va_D (zAb B) (zWT cI cJ h (n, L) (kt, km, kl) (pt, pm, pl) (nu, le, ow, fo, false, wc, lc, tr, cl, tm, ms) (yl, yc, yt, co, pa, su, sc) mc ++ R) := hD
    refine lv_aload_n hx hb dX4_giveUp_27 rfl (lv_at hl 0 rfl) ?_
    refine va_get (ci := 4) (v := .ref (h 11)) (C := RX4) (T := TX4) (N := 6) hx hb hts hinX4 hown hK hP 0 rfl rfl 3 (by decide) (hts (.fieldLink RX4 31 "TypingTutor" "current" "LTypingTutor$Lesson;") (List.mem_of_getElem? (i := 3) rfl)) (fun _ h9 => h9) rfl dX4_giveUp_28 ?_
    refine zci (zrV (As := []) (rest := []) ⟨hx, hb, hml, hown, hts⟩ (zV 11 hP hD hK hE hB hS rfl rfl) (c_X2_letterTotal  ) (cwV 0 hts gX4_giveUp_X2_letterTotal rfl rfl rfl hdv_X2_letterTotal ⟨Nat.le_of_ble_eq_true rfl, Nat.le_of_ble_eq_true rfl⟩) rfl rfl hl.1 rfl (lv_room (Nat.le_of_ble_eq_true rfl)) dX4_giveUp_31 ⟨Nat.le_of_ble_eq_true rfl, Nat.le_of_ble_eq_true rfl⟩) hS (fun H locs hP hD hS => ?_)
    have hP : va_P D vwCl (zWT cI cJ h (n, L) (kt, km, kl) (pt, pm, pl) (nu, le, ow, fo, false, wc, lc, tr, cl, tm, ms) (yl, yc, yt, co, pa, su, sc) mc ++ R) _ := hP
    have hD : va_D (zAb B) (zWT cI cJ h (n, L) (kt, km, kl) (pt, pm, pl) (nu, le, ow, fo, false, wc, lc, tr, cl, tm, ms) (yl, yc, yt, co, pa, su, sc) mc ++ R) := hD
    refine lv_aload_n hx hb dX4_giveUp_34 rfl (lv_at hl 0 rfl) ?_
    refine va_get (ci := 4) (v := .ref (h 11)) (C := RX4) (T := TX4) (N := 6) hx hb hts hinX4 hown hK hP 0 rfl rfl 3 (by decide) (hts (.fieldLink RX4 31 "TypingTutor" "current" "LTypingTutor$Lesson;") (List.mem_of_getElem? (i := 3) rfl)) (fun _ h9 => h9) rfl dX4_giveUp_35 ?_
    refine zci (zrV (As := []) (rest := [.int (nI lc)]) ⟨hx, hb, hml, hown, hts⟩ (zV 11 hP hD hK hE hB hS rfl rfl) (c_X2_triedTotal  ) (cwV 0 hts gX4_giveUp_X2_triedTotal rfl rfl rfl hdv_X2_triedTotal ⟨Nat.le_of_ble_eq_true rfl, Nat.le_of_ble_eq_true rfl⟩) rfl rfl hl.1 rfl (lv_room (Nat.le_of_ble_eq_true rfl)) dX4_giveUp_38 ⟨Nat.le_of_ble_eq_true rfl, Nat.le_of_ble_eq_true rfl⟩) hS (fun H locs hP hD hS => ?_)
    have hP : va_P D vwCl (zWT cI cJ h (n, L) (kt, km, kl) (pt, pm, pl) (nu, le, ow, fo, false, wc, lc, tr, cl, tm, ms) (yl, yc, yt, co, pa, su, sc) mc ++ R) _ := hP
    have hD : va_D (zAb B) (zWT cI cJ h (n, L) (kt, km, kl) (pt, pm, pl) (nu, le, ow, fo, false, wc, lc, tr, cl, tm, ms) (yl, yc, yt, co, pa, su, sc) mc ++ R) := hD
    refine lv_isub hx hb dX4_giveUp_41 ?_
    refine lv_topi (fun v_2 ev_2 => ?_)
    obtain rfl : v_2 = (nI (lc - tr)) := ev_2.trans (pk_sub (a := lc) (b := tr) (by omega))
    exact W.iret (v := (nI (lc - tr))) hx hb hr (fun t ht hW => ⟨⟨_, (), rfl, rfl, by rw [ht]; exact hP, hD⟩, hS.F ht⟩) hS.2.2 dX4_giveUp_42
  · skip
    have c_1 : run = false := zb_0 c_1
    exact absurd (c_1.symm.trans hrun) (by decide)

set_option maxHeartbeats 4000000 in
set_option maxRecDepth 100000 in
theorem c_X4_giveUp_x {l : Launch} {B kr kp : Nat} {D : va_G} {cI cJ cZ : ClassId} {h : Nat → Nat} {R : va_W} {n : Nat} {L : Nat → Int64} {kt : Nat → Int32} {km : Nat → Int32} {kl : Nat → Int32} {pt : Nat → Int32} {pm : Nat → Int32} {pl : Nat → Int32} {nu : Nat → Int32} {le : Nat → Int32} {ow : Nat → Int32} {fo : Nat → Int32} {run : Bool} {wc : Nat} {lc : Nat} {tr : Nat} {cl : Nat} {tm : Nat} {ms : Nat} {yl : Nat → Int32} {yc : Nat → Int32} {yt : Nat → Int32} {co : Nat} {pa : Int32} {su : Nat} {sc : Nat} {mc : Nat → Int32}    (hls : l.stackTraces = false) (hrun : run = false) : vx_Met l yX4_giveUp wsX4_giveUp ({ frames := 6, cells := 1, slots := 6, locals := 82 }) (zPc B kr kp D (zTy cI cJ cZ) (zWT cI cJ h (n, L) (kt, km, kl) (pt, pm, pl) (nu, le, ow, fo, run, wc, lc, tr, cl, tm, ms) (yl, yc, yt, co, pa, su, sc) mc ++ R) [.ref (h 0)]) (zQxi B D (zWT cI cJ h (n, L) (kt, km, kl) (pt, pm, pl) (nu, le, ow, fo, run, wc, lc, tr, cl, tm, ms) (yl, yc, yt, co, pa, su, sc) mc ++ R)) (zXC "java/lang/IllegalStateException" B D (zWT cI cJ h (n, L) (kt, km, kl) (pt, pm, pl) (nu, le, ow, fo, run, wc, lc, tr, cl, tm, ms) (yl, yc, yt, co, pa, su, sc) mc ++ R)) 1 6 (zAb B) := by
  refine vx_ofW (cc := cX4_giveUp) (maxL := 1) (ret := (some .int)) (by decide) rfl ?_
  intro p e s m args below meth c s₁ B0 hml ht9 hv
  obtain ⟨rfl, hP, hD, hK, hE, hB⟩ := hv
  have hx := B0.exec
  have hb := B0.bytes
  have hr := B0.returns
  have hts := atoms_spec (ws := wsX4_giveUp) B0.pre
  have hown : s.vm.findClass RX4 = some m.cls := findClass_of_methodNamed B0.named
  have hlocks := B0.notSynchronized
  have hA : ∀ q : Nat, s.heap.size ≤ q → zAb B q := fun q hq => Nat.le_trans hB hq
  have hS : va_S (zAb B) s.heap s.heap [] := va_S.rf
  have hl := lv_entry ([.ref (h 0)]) (n := 1) (Nat.le_of_ble_eq_true rfl)
  rw [lg_entry_eq]
  generalize (lg_sl ([.ref (h 0)]) ++ List.replicate (1 - (lg_sl ([.ref (h 0)])).length) Slot.unset).toArray = ls at hl ⊢
  have hl : lv_has ls 1 [(0, .ref (h 0))] := hl
  have hinX4 : ∀ w ∈ wsX40, w ∈ wsX4_giveUp := fun _ h => List.mem_cons_of_mem _ (List.mem_append_left _ (List.mem_append_left _ (List.mem_append_right _ h)))
  have hP : va_P D vwCl (zWT cI cJ h (n, L) (kt, km, kl) (pt, pm, pl) (nu, le, ow, fo, run, wc, lc, tr, cl, tm, ms) (yl, yc, yt, co, pa, su, sc) mc ++ R) s.heap := hP
  have hD : va_D (zAb B) (zWT cI cJ h (n, L) (kt, km, kl) (pt, pm, pl) (nu, le, ow, fo, run, wc, lc, tr, cl, tm, ms) (yl, yc, yt, co, pa, su, sc) mc ++ R) := hD
  refine lv_aload_n hx hb dX4_giveUp_0 rfl (lv_at hl 0 rfl) ?_
  refine va_get (ci := 4) (v := .ref (h 11)) (C := RX4) (T := TX4) (N := 6) hx hb hts hinX4 hown hK hP 0 rfl rfl 3 (by decide) (hts (.fieldLink RX4 31 "TypingTutor" "current" "LTypingTutor$Lesson;") (List.mem_of_getElem? (i := 3) rfl)) (fun _ h9 => h9) rfl dX4_giveUp_1 ?_
  refine zci (zrV (As := []) (rest := []) ⟨hx, hb, hml, hown, hts⟩ (zV 11 hP hD hK hE hB hS rfl rfl) (c_X2_isRunning  ) (cwV 0 hts gX4_giveUp_X2_isRunning rfl rfl rfl hdv_X2_isRunning ⟨Nat.le_of_ble_eq_true rfl, Nat.le_of_ble_eq_true rfl⟩) rfl rfl hl.1 rfl (lv_room (Nat.le_of_ble_eq_true rfl)) dX4_giveUp_4 ⟨Nat.le_of_ble_eq_true rfl, Nat.le_of_ble_eq_true rfl⟩) hS (fun H locs hP hD hS => ?_)
  have hP : va_P D vwCl (zWT cI cJ h (n, L) (kt, km, kl) (pt, pm, pl) (nu, le, ow, fo, run, wc, lc, tr, cl, tm, ms) (yl, yc, yt, co, pa, su, sc) mc ++ R) _ := hP
  have hD : va_D (zAb B) (zWT cI cJ h (n, L) (kt, km, kl) (pt, pm, pl) (nu, le, ow, fo, run, wc, lc, tr, cl, tm, ms) (yl, yc, yt, co, pa, su, sc) mc ++ R) := hD
  refine lv_if_ne (tgt := 20) hx hb dX4_giveUp_7 (by decide) (fun c_1 => ?_) (fun c_1 => ?_)
  · skip
    have c_1 : run = true := zb_n c_1
    exact absurd (c_1.symm.trans hrun) (by decide)
  · skip
    have c_1 : run = false := zb_0 c_1
    exact zthrow hx hb hls hown hE hP hD hS (hl.1.trans hml.symm) ht9 hlocks (by decide +kernel) (List.mem_of_getElem? (i := 7) rfl) (by decide +kernel) (hts (.classLink RX4 64 "java/lang/IllegalStateException") (List.mem_of_getElem? (i := 1) rfl)) (hts (.initialized "java/lang/IllegalStateException") (List.mem_of_getElem? (i := 2) rfl)) (fun w h9 => hts w (List.mem_cons_of_mem _ (List.mem_append_right _ h9))) (by decide +kernel) (by decide +kernel) dX4_giveUp_10 dX4_giveUp_13 dX4_giveUp_14 dX4_giveUp_16 dX4_giveUp_19 ⟨Nat.le_of_ble_eq_true rfl, Nat.le_of_ble_eq_true rfl, Nat.le_of_ble_eq_true rfl, Nat.le_of_ble_eq_true rfl⟩

set_option maxHeartbeats 4000000 in
set_option maxRecDepth 100000 in
theorem c_X4_wanted_x {l : Launch} {B kr kp : Nat} {D : va_G} {cI cJ cZ : ClassId} {h : Nat → Nat} {R : va_W} {n : Nat} {L : Nat → Int64} {kt : Nat → Int32} {km : Nat → Int32} {kl : Nat → Int32} {pt : Nat → Int32} {pm : Nat → Int32} {pl : Nat → Int32} {nu : Nat → Int32} {le : Nat → Int32} {ow : Nat → Int32} {fo : Nat → Int32} {run : Bool} {wc : Nat} {lc : Nat} {tr : Nat} {cl : Nat} {tm : Nat} {ms : Nat} {yl : Nat → Int32} {yc : Nat → Int32} {yt : Nat → Int32} {co : Nat} {pa : Int32} {su : Nat} {sc : Nat} {mc : Nat → Int32}    (hls : l.stackTraces = false) (hrun : run = false) : vx_Met l yX4_wanted wsX4_wanted ({ frames := 6, cells := 1, slots := 6, locals := 82 }) (zPc B kr kp D (zTy cI cJ cZ) (zWT cI cJ h (n, L) (kt, km, kl) (pt, pm, pl) (nu, le, ow, fo, run, wc, lc, tr, cl, tm, ms) (yl, yc, yt, co, pa, su, sc) mc ++ R) [.ref (h 0)]) (zQxi B D (zWT cI cJ h (n, L) (kt, km, kl) (pt, pm, pl) (nu, le, ow, fo, run, wc, lc, tr, cl, tm, ms) (yl, yc, yt, co, pa, su, sc) mc ++ R)) (zXC "java/lang/IllegalStateException" B D (zWT cI cJ h (n, L) (kt, km, kl) (pt, pm, pl) (nu, le, ow, fo, run, wc, lc, tr, cl, tm, ms) (yl, yc, yt, co, pa, su, sc) mc ++ R)) 1 6 (zAb B) := by
  refine vx_ofW (cc := cX4_wanted) (maxL := 1) (ret := (some .int)) (by decide) rfl ?_
  intro p e s m args below meth c s₁ B0 hml ht9 hv
  obtain ⟨rfl, hP, hD, hK, hE, hB⟩ := hv
  have hx := B0.exec
  have hb := B0.bytes
  have hr := B0.returns
  have hts := atoms_spec (ws := wsX4_wanted) B0.pre
  have hown : s.vm.findClass RX4 = some m.cls := findClass_of_methodNamed B0.named
  have hlocks := B0.notSynchronized
  have hA : ∀ q : Nat, s.heap.size ≤ q → zAb B q := fun q hq => Nat.le_trans hB hq
  have hS : va_S (zAb B) s.heap s.heap [] := va_S.rf
  have hl := lv_entry ([.ref (h 0)]) (n := 1) (Nat.le_of_ble_eq_true rfl)
  rw [lg_entry_eq]
  generalize (lg_sl ([.ref (h 0)]) ++ List.replicate (1 - (lg_sl ([.ref (h 0)])).length) Slot.unset).toArray = ls at hl ⊢
  have hl : lv_has ls 1 [(0, .ref (h 0))] := hl
  have hinX4 : ∀ w ∈ wsX40, w ∈ wsX4_wanted := fun _ h => List.mem_cons_of_mem _ (List.mem_append_left _ (List.mem_append_left _ (List.mem_append_right _ h)))
  have hP : va_P D vwCl (zWT cI cJ h (n, L) (kt, km, kl) (pt, pm, pl) (nu, le, ow, fo, run, wc, lc, tr, cl, tm, ms) (yl, yc, yt, co, pa, su, sc) mc ++ R) s.heap := hP
  have hD : va_D (zAb B) (zWT cI cJ h (n, L) (kt, km, kl) (pt, pm, pl) (nu, le, ow, fo, run, wc, lc, tr, cl, tm, ms) (yl, yc, yt, co, pa, su, sc) mc ++ R) := hD
  refine lv_aload_n hx hb dX4_wanted_0 rfl (lv_at hl 0 rfl) ?_
  refine va_get (ci := 4) (v := .ref (h 11)) (C := RX4) (T := TX4) (N := 6) hx hb hts hinX4 hown hK hP 0 rfl rfl 3 (by decide) (hts (.fieldLink RX4 31 "TypingTutor" "current" "LTypingTutor$Lesson;") (List.mem_of_getElem? (i := 3) rfl)) (fun _ h9 => h9) rfl dX4_wanted_1 ?_
  refine zci (zrV (As := []) (rest := []) ⟨hx, hb, hml, hown, hts⟩ (zV 11 hP hD hK hE hB hS rfl rfl) (c_X2_isRunning  ) (cwV 0 hts gX4_wanted_X2_isRunning rfl rfl rfl hdv_X2_isRunning ⟨Nat.le_of_ble_eq_true rfl, Nat.le_of_ble_eq_true rfl⟩) rfl rfl hl.1 rfl (lv_room (Nat.le_of_ble_eq_true rfl)) dX4_wanted_4 ⟨Nat.le_of_ble_eq_true rfl, Nat.le_of_ble_eq_true rfl⟩) hS (fun H locs hP hD hS => ?_)
  have hP : va_P D vwCl (zWT cI cJ h (n, L) (kt, km, kl) (pt, pm, pl) (nu, le, ow, fo, run, wc, lc, tr, cl, tm, ms) (yl, yc, yt, co, pa, su, sc) mc ++ R) _ := hP
  have hD : va_D (zAb B) (zWT cI cJ h (n, L) (kt, km, kl) (pt, pm, pl) (nu, le, ow, fo, run, wc, lc, tr, cl, tm, ms) (yl, yc, yt, co, pa, su, sc) mc ++ R) := hD
  refine lv_if_ne (tgt := 20) hx hb dX4_wanted_7 (by decide) (fun c_1 => ?_) (fun c_1 => ?_)
  · skip
    have c_1 : run = true := zb_n c_1
    exact absurd (c_1.symm.trans hrun) (by decide)
  · skip
    have c_1 : run = false := zb_0 c_1
    exact zthrow hx hb hls hown hE hP hD hS (hl.1.trans hml.symm) ht9 hlocks (by decide +kernel) (List.mem_of_getElem? (i := 7) rfl) (by decide +kernel) (hts (.classLink RX4 64 "java/lang/IllegalStateException") (List.mem_of_getElem? (i := 1) rfl)) (hts (.initialized "java/lang/IllegalStateException") (List.mem_of_getElem? (i := 2) rfl)) (fun w h9 => hts w (List.mem_cons_of_mem _ (List.mem_append_right _ h9))) (by decide +kernel) (by decide +kernel) dX4_wanted_10 dX4_wanted_13 dX4_wanted_14 dX4_wanted_16 dX4_wanted_19 ⟨Nat.le_of_ble_eq_true rfl, Nat.le_of_ble_eq_true rfl, Nat.le_of_ble_eq_true rfl, Nat.le_of_ble_eq_true rfl⟩

set_option maxHeartbeats 4000000 in
set_option maxRecDepth 100000 in
theorem c_X4_done_x {l : Launch} {B kr kp : Nat} {D : va_G} {cI cJ cZ : ClassId} {h : Nat → Nat} {R : va_W} {n : Nat} {L : Nat → Int64} {kt : Nat → Int32} {km : Nat → Int32} {kl : Nat → Int32} {pt : Nat → Int32} {pm : Nat → Int32} {pl : Nat → Int32} {nu : Nat → Int32} {le : Nat → Int32} {ow : Nat → Int32} {fo : Nat → Int32} {run : Bool} {wc : Nat} {lc : Nat} {tr : Nat} {cl : Nat} {tm : Nat} {ms : Nat} {yl : Nat → Int32} {yc : Nat → Int32} {yt : Nat → Int32} {co : Nat} {pa : Int32} {su : Nat} {sc : Nat} {mc : Nat → Int32}    (hls : l.stackTraces = false) (hrun : run = false) : vx_Met l yX4_done wsX4_done ({ frames := 6, cells := 1, slots := 6, locals := 82 }) (zPc B kr kp D (zTy cI cJ cZ) (zWT cI cJ h (n, L) (kt, km, kl) (pt, pm, pl) (nu, le, ow, fo, run, wc, lc, tr, cl, tm, ms) (yl, yc, yt, co, pa, su, sc) mc ++ R) [.ref (h 0)]) (zQxi B D (zWT cI cJ h (n, L) (kt, km, kl) (pt, pm, pl) (nu, le, ow, fo, run, wc, lc, tr, cl, tm, ms) (yl, yc, yt, co, pa, su, sc) mc ++ R)) (zXC "java/lang/IllegalStateException" B D (zWT cI cJ h (n, L) (kt, km, kl) (pt, pm, pl) (nu, le, ow, fo, run, wc, lc, tr, cl, tm, ms) (yl, yc, yt, co, pa, su, sc) mc ++ R)) 1 6 (zAb B) := by
  refine vx_ofW (cc := cX4_done) (maxL := 1) (ret := (some .int)) (by decide) rfl ?_
  intro p e s m args below meth c s₁ B0 hml ht9 hv
  obtain ⟨rfl, hP, hD, hK, hE, hB⟩ := hv
  have hx := B0.exec
  have hb := B0.bytes
  have hr := B0.returns
  have hts := atoms_spec (ws := wsX4_done) B0.pre
  have hown : s.vm.findClass RX4 = some m.cls := findClass_of_methodNamed B0.named
  have hlocks := B0.notSynchronized
  have hA : ∀ q : Nat, s.heap.size ≤ q → zAb B q := fun q hq => Nat.le_trans hB hq
  have hS : va_S (zAb B) s.heap s.heap [] := va_S.rf
  have hl := lv_entry ([.ref (h 0)]) (n := 1) (Nat.le_of_ble_eq_true rfl)
  rw [lg_entry_eq]
  generalize (lg_sl ([.ref (h 0)]) ++ List.replicate (1 - (lg_sl ([.ref (h 0)])).length) Slot.unset).toArray = ls at hl ⊢
  have hl : lv_has ls 1 [(0, .ref (h 0))] := hl
  have hinX4 : ∀ w ∈ wsX40, w ∈ wsX4_done := fun _ h => List.mem_cons_of_mem _ (List.mem_append_left _ (List.mem_append_left _ (List.mem_append_right _ h)))
  have hP : va_P D vwCl (zWT cI cJ h (n, L) (kt, km, kl) (pt, pm, pl) (nu, le, ow, fo, run, wc, lc, tr, cl, tm, ms) (yl, yc, yt, co, pa, su, sc) mc ++ R) s.heap := hP
  have hD : va_D (zAb B) (zWT cI cJ h (n, L) (kt, km, kl) (pt, pm, pl) (nu, le, ow, fo, run, wc, lc, tr, cl, tm, ms) (yl, yc, yt, co, pa, su, sc) mc ++ R) := hD
  refine lv_aload_n hx hb dX4_done_0 rfl (lv_at hl 0 rfl) ?_
  refine va_get (ci := 4) (v := .ref (h 11)) (C := RX4) (T := TX4) (N := 6) hx hb hts hinX4 hown hK hP 0 rfl rfl 3 (by decide) (hts (.fieldLink RX4 31 "TypingTutor" "current" "LTypingTutor$Lesson;") (List.mem_of_getElem? (i := 3) rfl)) (fun _ h9 => h9) rfl dX4_done_1 ?_
  refine zci (zrV (As := []) (rest := []) ⟨hx, hb, hml, hown, hts⟩ (zV 11 hP hD hK hE hB hS rfl rfl) (c_X2_isRunning  ) (cwV 0 hts gX4_done_X2_isRunning rfl rfl rfl hdv_X2_isRunning ⟨Nat.le_of_ble_eq_true rfl, Nat.le_of_ble_eq_true rfl⟩) rfl rfl hl.1 rfl (lv_room (Nat.le_of_ble_eq_true rfl)) dX4_done_4 ⟨Nat.le_of_ble_eq_true rfl, Nat.le_of_ble_eq_true rfl⟩) hS (fun H locs hP hD hS => ?_)
  have hP : va_P D vwCl (zWT cI cJ h (n, L) (kt, km, kl) (pt, pm, pl) (nu, le, ow, fo, run, wc, lc, tr, cl, tm, ms) (yl, yc, yt, co, pa, su, sc) mc ++ R) _ := hP
  have hD : va_D (zAb B) (zWT cI cJ h (n, L) (kt, km, kl) (pt, pm, pl) (nu, le, ow, fo, run, wc, lc, tr, cl, tm, ms) (yl, yc, yt, co, pa, su, sc) mc ++ R) := hD
  refine lv_if_ne (tgt := 20) hx hb dX4_done_7 (by decide) (fun c_1 => ?_) (fun c_1 => ?_)
  · skip
    have c_1 : run = true := zb_n c_1
    exact absurd (c_1.symm.trans hrun) (by decide)
  · skip
    have c_1 : run = false := zb_0 c_1
    exact zthrow hx hb hls hown hE hP hD hS (hl.1.trans hml.symm) ht9 hlocks (by decide +kernel) (List.mem_of_getElem? (i := 7) rfl) (by decide +kernel) (hts (.classLink RX4 64 "java/lang/IllegalStateException") (List.mem_of_getElem? (i := 1) rfl)) (hts (.initialized "java/lang/IllegalStateException") (List.mem_of_getElem? (i := 2) rfl)) (fun w h9 => hts w (List.mem_cons_of_mem _ (List.mem_append_right _ h9))) (by decide +kernel) (by decide +kernel) dX4_done_10 dX4_done_13 dX4_done_14 dX4_done_16 dX4_done_19 ⟨Nat.le_of_ble_eq_true rfl, Nat.le_of_ble_eq_true rfl, Nat.le_of_ble_eq_true rfl, Nat.le_of_ble_eq_true rfl⟩

set_option maxHeartbeats 4000000 in
set_option maxRecDepth 100000 in
theorem c_X4_isOpen {l : Launch} {B kr kp : Nat} {D : va_G} {cI cJ cZ : ClassId} {h : Nat → Nat} {R : va_W} {n : Nat} {L : Nat → Int64} {kt : Nat → Int32} {km : Nat → Int32} {kl : Nat → Int32} {pt : Nat → Int32} {pm : Nat → Int32} {pl : Nat → Int32} {nu : Nat → Int32} {le : Nat → Int32} {ow : Nat → Int32} {fo : Nat → Int32} {run : Bool} {wc : Nat} {lc : Nat} {tr : Nat} {cl : Nat} {tm : Nat} {ms : Nat} {yl : Nat → Int32} {yc : Nat → Int32} {yt : Nat → Int32} {co : Nat} {pa : Int32} {su : Nat} {sc : Nat} {mc : Nat → Int32}     : Met l yX4_isOpen wsX4_isOpen ({ frames := 1, cells := 0, slots := 0, locals := 20 }) (zPc B kr kp D (zTy cI cJ cZ) (zWT cI cJ h (n, L) (kt, km, kl) (pt, pm, pl) (nu, le, ow, fo, run, wc, lc, tr, cl, tm, ms) (yl, yc, yt, co, pa, su, sc) mc ++ R) [.ref (h 0)]) (zQi B D (zWT cI cJ h (n, L) (kt, km, kl) (pt, pm, pl) (nu, le, ow, fo, run, wc, lc, tr, cl, tm, ms) (yl, yc, yt, co, pa, su, sc) mc ++ R) (zb run)) 0 0 (zAb B) := by
  refine Met.ofW (cc := cX4_isOpen) (maxL := 1) (ret := (some .boolean)) (by decide) rfl ?_
  intro p e s m args below meth c s₁ B0 hml hv
  obtain ⟨rfl, hP, hD, hK, hE, hB⟩ := hv
  have hx := B0.exec
  have hb := B0.bytes
  have hr := B0.returns
  have hts := atoms_spec (ws := wsX4_isOpen) B0.pre
  have hown : s.vm.findClass RX4 = some m.cls := findClass_of_methodNamed B0.named
  have hlocks := B0.notSynchronized
  have hA : ∀ q : Nat, s.heap.size ≤ q → zAb B q := fun q hq => Nat.le_trans hB hq
  have hS : va_S (zAb B) s.heap s.heap [] := va_S.rf
  have hl := lv_entry ([.ref (h 0)]) (n := 1) (Nat.le_of_ble_eq_true rfl)
  rw [lg_entry_eq]
  generalize (lg_sl ([.ref (h 0)]) ++ List.replicate (1 - (lg_sl ([.ref (h 0)])).length) Slot.unset).toArray = ls at hl ⊢
  have hl : lv_has ls 1 [(0, .ref (h 0))] := hl
  have hinX4 : ∀ w ∈ wsX40, w ∈ wsX4_isOpen := fun _ h => List.mem_cons_of_mem _ (List.mem_append_left _ (List.mem_append_right _ h))
  have hP : va_P D vwCl (zWT cI cJ h (n, L) (kt, km, kl) (pt, pm, pl) (nu, le, ow, fo, run, wc, lc, tr, cl, tm, ms) (yl, yc, yt, co, pa, su, sc) mc ++ R) s.heap := hP
  have hD : va_D (zAb B) (zWT cI cJ h (n, L) (kt, km, kl) (pt, pm, pl) (nu, le, ow, fo, run, wc, lc, tr, cl, tm, ms) (yl, yc, yt, co, pa, su, sc) mc ++ R) := hD
  refine lv_aload_n hx hb dX4_isOpen_0 rfl (lv_at hl 0 rfl) ?_
  refine va_get (ci := 4) (v := .ref (h 11)) (C := RX4) (T := TX4) (N := 6) hx hb hts hinX4 hown hK hP 0 rfl rfl 3 (by decide) (hts (.fieldLink RX4 31 "TypingTutor" "current" "LTypingTutor$Lesson;") (List.mem_of_getElem? (i := 1) rfl)) (fun _ h9 => h9) rfl dX4_isOpen_1 ?_
  refine zci (zrV (As := []) (rest := []) ⟨hx, hb, hml, hown, hts⟩ (zV 11 hP hD hK hE hB hS rfl rfl) (c_X2_isRunning  ) (cwV 0 hts gX4_isOpen_X2_isRunning rfl rfl rfl hdv_X2_isRunning ⟨Nat.le_of_ble_eq_true rfl, Nat.le_of_ble_eq_true rfl⟩) rfl rfl hl.1 rfl (lv_room (Nat.le_of_ble_eq_true rfl)) dX4_isOpen_4 ⟨Nat.le_of_ble_eq_true rfl, Nat.le_of_ble_eq_true rfl⟩) hS (fun H locs hP hD hS => ?_)
  have hP : va_P D vwCl (zWT cI cJ h (n, L) (kt, km, kl) (pt, pm, pl) (nu, le, ow, fo, run, wc, lc, tr, cl, tm, ms) (yl, yc, yt, co, pa, su, sc) mc ++ R) _ := hP
  have hD : va_D (zAb B) (zWT cI cJ h (n, L) (kt, km, kl) (pt, pm, pl) (nu, le, ow, fo, run, wc, lc, tr, cl, tm, ms) (yl, yc, yt, co, pa, su, sc) mc ++ R) := hD
  exact W.zret (v := (zb run)) hx hb hr zb_nar (fun t ht hW => ⟨⟨_, (), rfl, rfl, by rw [ht]; exact hP, hD⟩, hS.F ht⟩) hS.2.2 dX4_isOpen_7

set_option maxHeartbeats 4000000 in
set_option maxRecDepth 100000 in
theorem c_X4_wanted {l : Launch} {B kr kp : Nat} {D : va_G} {cI cJ cZ : ClassId} {h : Nat → Nat} {R : va_W} {n : Nat} {L : Nat → Int64} {kt : Nat → Int32} {km : Nat → Int32} {kl : Nat → Int32} {pt : Nat → Int32} {pm : Nat → Int32} {pl : Nat → Int32} {nu : Nat → Int32} {le : Nat → Int32} {ow : Nat → Int32} {fo : Nat → Int32} {run : Bool} {wc : Nat} {lc : Nat} {tr : Nat} {cl : Nat} {tm : Nat} {ms : Nat} {yl : Nat → Int32} {yc : Nat → Int32} {yt : Nat → Int32} {co : Nat} {pa : Int32} {su : Nat} {sc : Nat} {mc : Nat → Int32}    (hrun : run = true) (htr : tr < 48) : Met l yX4_wanted wsX4_wanted ({ frames := 2, cells := 0, slots := 0, locals := 41 }) (zPc B kr kp D (zTy cI cJ cZ) (zWT cI cJ h (n, L) (kt, km, kl) (pt, pm, pl) (nu, le, ow, fo, run, wc, lc, tr, cl, tm, ms) (yl, yc, yt, co, pa, su, sc) mc ++ R) [.ref (h 0)]) (zQi B D (zWT cI cJ h (n, L) (kt, km, kl) (pt, pm, pl) (nu, le, ow, fo, run, wc, lc, tr, cl, tm, ms) (yl, yc, yt, co, pa, su, sc) mc ++ R) (le tr)) 0 0 (zAb B) := by
  refine Met.ofW (cc := cX4_wanted) (maxL := 1) (ret := (some .int)) (by decide) rfl ?_
  intro p e s m args below meth c s₁ B0 hml hv
  obtain ⟨rfl, hP, hD, hK, hE, hB⟩ := hv
  have hx := B0.exec
  have hb := B0.bytes
  have hr := B0.returns
  have hts := atoms_spec (ws := wsX4_wanted) B0.pre
  have hown : s.vm.findClass RX4 = some m.cls := findClass_of_methodNamed B0.named
  have hlocks := B0.notSynchronized
  have hA : ∀ q : Nat, s.heap.size ≤ q → zAb B q := fun q hq => Nat.le_trans hB hq
  have hS : va_S (zAb B) s.heap s.heap [] := va_S.rf
  have hl := lv_entry ([.ref (h 0)]) (n := 1) (Nat.le_of_ble_eq_true rfl)
  rw [lg_entry_eq]
  generalize (lg_sl ([.ref (h 0)]) ++ List.replicate (1 - (lg_sl ([.ref (h 0)])).length) Slot.unset).toArray = ls at hl ⊢
  have hl : lv_has ls 1 [(0, .ref (h 0))] := hl
  have hinX4 : ∀ w ∈ wsX40, w ∈ wsX4_wanted := fun _ h => List.mem_cons_of_mem _ (List.mem_append_left _ (List.mem_append_left _ (List.mem_append_right _ h)))
  have hP : va_P D vwCl (zWT cI cJ h (n, L) (kt, km, kl) (pt, pm, pl) (nu, le, ow, fo, run, wc, lc, tr, cl, tm, ms) (yl, yc, yt, co, pa, su, sc) mc ++ R) s.heap := hP
  have hD : va_D (zAb B) (zWT cI cJ h (n, L) (kt, km, kl) (pt, pm, pl) (nu, le, ow, fo, run, wc, lc, tr, cl, tm, ms) (yl, yc, yt, co, pa, su, sc) mc ++ R) := hD
  refine lv_aload_n hx hb dX4_wanted_0 rfl (lv_at hl 0 rfl) ?_
  refine va_get (ci := 4) (v := .ref (h 11)) (C := RX4) (T := TX4) (N := 6) hx hb hts hinX4 hown hK hP 0 rfl rfl 3 (by decide) (hts (.fieldLink RX4 31 "TypingTutor" "current" "LTypingTutor$Lesson;") (List.mem_of_getElem? (i := 3) rfl)) (fun _ h9 => h9) rfl dX4_wanted_1 ?_
  refine zci (zrV (As := []) (rest := []) ⟨hx, hb, hml, hown, hts⟩ (zV 11 hP hD hK hE hB hS rfl rfl) (c_X2_isRunning  ) (cwV 0 hts gX4_wanted_X2_isRunning rfl rfl rfl hdv_X2_isRunning ⟨Nat.le_of_ble_eq_true rfl, Nat.le_of_ble_eq_true rfl⟩) rfl rfl hl.1 rfl (lv_room (Nat.le_of_ble_eq_true rfl)) dX4_wanted_4 ⟨Nat.le_of_ble_eq_true rfl, Nat.le_of_ble_eq_true rfl⟩) hS (fun H locs hP hD hS => ?_)
  have hP : va_P D vwCl (zWT cI cJ h (n, L) (kt, km, kl) (pt, pm, pl) (nu, le, ow, fo, run, wc, lc, tr, cl, tm, ms) (yl, yc, yt, co, pa, su, sc) mc ++ R) _ := hP
  have hD : va_D (zAb B) (zWT cI cJ h (n, L) (kt, km, kl) (pt, pm, pl) (nu, le, ow, fo, run, wc, lc, tr, cl, tm, ms) (yl, yc, yt, co, pa, su, sc) mc ++ R) := hD
  refine lv_if_ne (tgt := 20) hx hb dX4_wanted_7 (by decide) (fun c_1 => ?_) (fun c_1 => ?_)
  · skip
    have c_1 : run = true := zb_n c_1
    refine lv_aload_n hx hb dX4_wanted_20 rfl (lv_at hl 0 rfl) ?_
    refine va_get (ci := 4) (v := .ref (h 11)) (C := RX4) (T := TX4) (N := 6) hx hb hts hinX4 hown hK hP 0 rfl rfl 3 (by decide) (hts (.fieldLink RX4 31 "TypingTutor" "current" "LTypingTutor$Lesson;") (List.mem_of_getElem? (i := 3) rfl)) (fun _ h9 => h9) rfl dX4_wanted_21 ?_
    refine zci (zrV (As := []) (rest := []) ⟨hx, hb, hml, hown, hts⟩ (zV 11 hP hD hK hE hB hS rfl rfl) (c_X2_letterHere  (by omega)) (cwV 0 hts gX4_wanted_X2_letterHere rfl rfl rfl hdv_X2_letterHere ⟨Nat.le_of_ble_eq_true rfl, Nat.le_of_ble_eq_true rfl⟩) rfl rfl hl.1 rfl (lv_room (Nat.le_of_ble_eq_true rfl)) dX4_wanted_24 ⟨Nat.le_of_ble_eq_true rfl, Nat.le_of_ble_eq_true rfl⟩) hS (fun H locs hP hD hS => ?_)
    have hP : va_P D vwCl (zWT cI cJ h (n, L) (kt, km, kl) (pt, pm, pl) (nu, le, ow, fo, run, wc, lc, tr, cl, tm, ms) (yl, yc, yt, co, pa, su, sc) mc ++ R) _ := hP
    have hD : va_D (zAb B) (zWT cI cJ h (n, L) (kt, km, kl) (pt, pm, pl) (nu, le, ow, fo, run, wc, lc, tr, cl, tm, ms) (yl, yc, yt, co, pa, su, sc) mc ++ R) := hD
    exact W.iret (v := (le tr)) hx hb hr (fun t ht hW => ⟨⟨_, (), rfl, rfl, by rw [ht]; exact hP, hD⟩, hS.F ht⟩) hS.2.2 dX4_wanted_27
  · skip
    have c_1 : run = false := zb_0 c_1
    exact absurd (c_1.symm.trans hrun) (by decide)

set_option maxHeartbeats 4000000 in
set_option maxRecDepth 100000 in
theorem c_X4_done {l : Launch} {B kr kp : Nat} {D : va_G} {cI cJ cZ : ClassId} {h : Nat → Nat} {R : va_W} {n : Nat} {L : Nat → Int64} {kt : Nat → Int32} {km : Nat → Int32} {kl : Nat → Int32} {pt : Nat → Int32} {pm : Nat → Int32} {pl : Nat → Int32} {nu : Nat → Int32} {le : Nat → Int32} {ow : Nat → Int32} {fo : Nat → Int32} {run : Bool} {wc : Nat} {lc : Nat} {tr : Nat} {cl : Nat} {tm : Nat} {ms : Nat} {yl : Nat → Int32} {yc : Nat → Int32} {yt : Nat → Int32} {co : Nat} {pa : Int32} {su : Nat} {sc : Nat} {mc : Nat → Int32}    (hrun : run = true) : Met l yX4_done wsX4_done ({ frames := 1, cells := 0, slots := 0, locals := 20 }) (zPc B kr kp D (zTy cI cJ cZ) (zWT cI cJ h (n, L) (kt, km, kl) (pt, pm, pl) (nu, le, ow, fo, run, wc, lc, tr, cl, tm, ms) (yl, yc, yt, co, pa, su, sc) mc ++ R) [.ref (h 0)]) (zQi B D (zWT cI cJ h (n, L) (kt, km, kl) (pt, pm, pl) (nu, le, ow, fo, run, wc, lc, tr, cl, tm, ms) (yl, yc, yt, co, pa, su, sc) mc ++ R) (nI tr)) 0 0 (zAb B) := by
  refine Met.ofW (cc := cX4_done) (maxL := 1) (ret := (some .int)) (by decide) rfl ?_
  intro p e s m args below meth c s₁ B0 hml hv
  obtain ⟨rfl, hP, hD, hK, hE, hB⟩ := hv
  have hx := B0.exec
  have hb := B0.bytes
  have hr := B0.returns
  have hts := atoms_spec (ws := wsX4_done) B0.pre
  have hown : s.vm.findClass RX4 = some m.cls := findClass_of_methodNamed B0.named
  have hlocks := B0.notSynchronized
  have hA : ∀ q : Nat, s.heap.size ≤ q → zAb B q := fun q hq => Nat.le_trans hB hq
  have hS : va_S (zAb B) s.heap s.heap [] := va_S.rf
  have hl := lv_entry ([.ref (h 0)]) (n := 1) (Nat.le_of_ble_eq_true rfl)
  rw [lg_entry_eq]
  generalize (lg_sl ([.ref (h 0)]) ++ List.replicate (1 - (lg_sl ([.ref (h 0)])).length) Slot.unset).toArray = ls at hl ⊢
  have hl : lv_has ls 1 [(0, .ref (h 0))] := hl
  have hinX4 : ∀ w ∈ wsX40, w ∈ wsX4_done := fun _ h => List.mem_cons_of_mem _ (List.mem_append_left _ (List.mem_append_left _ (List.mem_append_right _ h)))
  have hP : va_P D vwCl (zWT cI cJ h (n, L) (kt, km, kl) (pt, pm, pl) (nu, le, ow, fo, run, wc, lc, tr, cl, tm, ms) (yl, yc, yt, co, pa, su, sc) mc ++ R) s.heap := hP
  have hD : va_D (zAb B) (zWT cI cJ h (n, L) (kt, km, kl) (pt, pm, pl) (nu, le, ow, fo, run, wc, lc, tr, cl, tm, ms) (yl, yc, yt, co, pa, su, sc) mc ++ R) := hD
  refine lv_aload_n hx hb dX4_done_0 rfl (lv_at hl 0 rfl) ?_
  refine va_get (ci := 4) (v := .ref (h 11)) (C := RX4) (T := TX4) (N := 6) hx hb hts hinX4 hown hK hP 0 rfl rfl 3 (by decide) (hts (.fieldLink RX4 31 "TypingTutor" "current" "LTypingTutor$Lesson;") (List.mem_of_getElem? (i := 3) rfl)) (fun _ h9 => h9) rfl dX4_done_1 ?_
  refine zci (zrV (As := []) (rest := []) ⟨hx, hb, hml, hown, hts⟩ (zV 11 hP hD hK hE hB hS rfl rfl) (c_X2_isRunning  ) (cwV 0 hts gX4_done_X2_isRunning rfl rfl rfl hdv_X2_isRunning ⟨Nat.le_of_ble_eq_true rfl, Nat.le_of_ble_eq_true rfl⟩) rfl rfl hl.1 rfl (lv_room (Nat.le_of_ble_eq_true rfl)) dX4_done_4 ⟨Nat.le_of_ble_eq_true rfl, Nat.le_of_ble_eq_true rfl⟩) hS (fun H locs hP hD hS => ?_)
  have hP : va_P D vwCl (zWT cI cJ h (n, L) (kt, km, kl) (pt, pm, pl) (nu, le, ow, fo, run, wc, lc, tr, cl, tm, ms) (yl, yc, yt, co, pa, su, sc) mc ++ R) _ := hP
  have hD : va_D (zAb B) (zWT cI cJ h (n, L) (kt, km, kl) (pt, pm, pl) (nu, le, ow, fo, run, wc, lc, tr, cl, tm, ms) (yl, yc, yt, co, pa, su, sc) mc ++ R) := hD
  refine lv_if_ne (tgt := 20) hx hb dX4_done_7 (by decide) (fun c_1 => ?_) (fun c_1 => ?_)
  · skip
    have c_1 : run = true := zb_n c_1
    refine lv_aload_n hx hb dX4_done_20 rfl (lv_at hl 0 rfl) ?_
    refine va_get (ci := 4) (v := .ref (h 11)) (C := RX4) (T := TX4) (N := 6) hx hb hts hinX4 hown hK hP 0 rfl rfl 3 (by decide) (hts (.fieldLink RX4 31 "TypingTutor" "current" "LTypingTutor$Lesson;") (List.mem_of_getElem? (i := 3) rfl)) (fun _ h9 => h9) rfl dX4_done_21 ?_
    refine zci (zrV (As := []) (rest := []) ⟨hx, hb, hml, hown, hts⟩ (zV 11 hP hD hK hE hB hS rfl rfl) (c_X2_triedTotal  ) (cwV 0 hts gX4_done_X2_triedTotal rfl rfl rfl hdv_X2_triedTotal ⟨Nat.le_of_ble_eq_true rfl, Nat.le_of_ble_eq_true rfl⟩) rfl rfl hl.1 rfl (lv_room (Nat.le_of_ble_eq_true rfl)) dX4_done_24 ⟨Nat.le_of_ble_eq_true rfl, Nat.le_of_ble_eq_true rfl⟩) hS (fun H locs hP hD hS => ?_)
    have hP : va_P D vwCl (zWT cI cJ h (n, L) (kt, km, kl) (pt, pm, pl) (nu, le, ow, fo, run, wc, lc, tr, cl, tm, ms) (yl, yc, yt, co, pa, su, sc) mc ++ R) _ := hP
    have hD : va_D (zAb B) (zWT cI cJ h (n, L) (kt, km, kl) (pt, pm, pl) (nu, le, ow, fo, run, wc, lc, tr, cl, tm, ms) (yl, yc, yt, co, pa, su, sc) mc ++ R) := hD
    exact W.iret (v := (nI tr)) hx hb hr (fun t ht hW => ⟨⟨_, (), rfl, rfl, by rw [ht]; exact hP, hD⟩, hS.F ht⟩) hS.2.2 dX4_done_27
  · skip
    have c_1 : run = false := zb_0 c_1
    exact absurd (c_1.symm.trans hrun) (by decide)

set_option maxHeartbeats 4000000 in
set_option maxRecDepth 100000 in
theorem c_X4_lessonWord {l : Launch} {B kr kp : Nat} {D : va_G} {cI cJ cZ : ClassId} {h : Nat → Nat} {R : va_W} {n : Nat} {L : Nat → Int64} {kt : Nat → Int32} {km : Nat → Int32} {kl : Nat → Int32} {pt : Nat → Int32} {pm : Nat → Int32} {pl : Nat → Int32} {nu : Nat → Int32} {le : Nat → Int32} {ow : Nat → Int32} {fo : Nat → Int32} {run : Bool} {wc : Nat} {lc : Nat} {tr : Nat} {cl : Nat} {tm : Nat} {ms : Nat} {yl : Nat → Int32} {yc : Nat → Int32} {yt : Nat → Int32} {co : Nat} {pa : Int32} {su : Nat} {sc : Nat} {mc : Nat → Int32} {k : Nat}   (hrun : run = true) (hk : k < wc) (hwc : wc ≤ 6) : Met l yX4_lessonWord wsX4_lessonWord ({ frames := 2, cells := 0, slots := 0, locals := 42 }) (zPc B kr kp D (zTy cI cJ cZ) (zWT cI cJ h (n, L) (kt, km, kl) (pt, pm, pl) (nu, le, ow, fo, run, wc, lc, tr, cl, tm, ms) (yl, yc, yt, co, pa, su, sc) mc ++ R) [.ref (h 0), .int (nI k)]) (zQi B D (zWT cI cJ h (n, L) (kt, km, kl) (pt, pm, pl) (nu, le, ow, fo, run, wc, lc, tr, cl, tm, ms) (yl, yc, yt, co, pa, su, sc) mc ++ R) (nu k)) 0 0 (zAb B) := by
  refine Met.ofW (cc := cX4_lessonWord) (maxL := 2) (ret := (some .int)) (by decide) rfl ?_
  intro p e s m args below meth c s₁ B0 hml hv
  obtain ⟨rfl, hP, hD, hK, hE, hB⟩ := hv
  have hx := B0.exec
  have hb := B0.bytes
  have hr := B0.returns
  have hts := atoms_spec (ws := wsX4_lessonWord) B0.pre
  have hown : s.vm.findClass RX4 = some m.cls := findClass_of_methodNamed B0.named
  have hlocks := B0.notSynchronized
  have hA : ∀ q : Nat, s.heap.size ≤ q → zAb B q := fun q hq => Nat.le_trans hB hq
  have hS : va_S (zAb B) s.heap s.heap [] := va_S.rf
  have hl := lv_entry ([.ref (h 0), .int (nI k)]) (n := 2) (Nat.le_of_ble_eq_true rfl)
  rw [lg_entry_eq]
  generalize (lg_sl ([.ref (h 0), .int (nI k)]) ++ List.replicate (2 - (lg_sl ([.ref (h 0), .int (nI k)])).length) Slot.unset).toArray = ls at hl ⊢
  have hl : lv_has ls 2 [(0, .ref (h 0)), (1, .int (nI k))] := hl
  have hinX4 : ∀ w ∈ wsX40, w ∈ wsX4_lessonWord := fun _ h => List.mem_cons_of_mem _ (List.mem_append_left _ (List.mem_append_left _ (List.mem_append_left _ (List.mem_append_right _ h))))
  have hP : va_P D vwCl (zWT cI cJ h (n, L) (kt, km, kl) (pt, pm, pl) (nu, le, ow, fo, run, wc, lc, tr, cl, tm, ms) (yl, yc, yt, co, pa, su, sc) mc ++ R) s.heap := hP
  have hD : va_D (zAb B) (zWT cI cJ h (n, L) (kt, km, kl) (pt, pm, pl) (nu, le, ow, fo, run, wc, lc, tr, cl, tm, ms) (yl, yc, yt, co, pa, su, sc) mc ++ R) := hD
  refine lv_aload_n hx hb dX4_lessonWord_0 rfl (lv_at hl 0 rfl) ?_
  refine va_get (ci := 4) (v := .ref (h 11)) (C := RX4) (T := TX4) (N := 6) hx hb hts hinX4 hown hK hP 0 rfl rfl 3 (by decide) (hts (.fieldLink RX4 31 "TypingTutor" "current" "LTypingTutor$Lesson;") (List.mem_of_getElem? (i := 5) rfl)) (fun _ h9 => h9) rfl dX4_lessonWord_1 ?_
  refine zci (zrV (As := []) (rest := []) ⟨hx, hb, hml, hown, hts⟩ (zV 11 hP hD hK hE hB hS rfl rfl) (c_X2_isRunning  ) (cwV 0 hts gX4_lessonWord_X2_isRunning rfl rfl rfl hdv_X2_isRunning ⟨Nat.le_of_ble_eq_true rfl, Nat.le_of_ble_eq_true rfl⟩) rfl rfl hl.1 rfl (lv_room (Nat.le_of_ble_eq_true rfl)) dX4_lessonWord_4 ⟨Nat.le_of_ble_eq_true rfl, Nat.le_of_ble_eq_true rfl⟩) hS (fun H locs hP hD hS => ?_)
  have hP : va_P D vwCl (zWT cI cJ h (n, L) (kt, km, kl) (pt, pm, pl) (nu, le, ow, fo, run, wc, lc, tr, cl, tm, ms) (yl, yc, yt, co, pa, su, sc) mc ++ R) _ := hP
  have hD : va_D (zAb B) (zWT cI cJ h (n, L) (kt, km, kl) (pt, pm, pl) (nu, le, ow, fo, run, wc, lc, tr, cl, tm, ms) (yl, yc, yt, co, pa, su, sc) mc ++ R) := hD
  refine lv_if_ne (tgt := 20) hx hb dX4_lessonWord_7 (by decide) (fun c_1 => ?_) (fun c_1 => ?_)
  · skip
    have c_1 : run = true := zb_n c_1
    refine lv_iload_n hx hb dX4_lessonWord_20 rfl (lv_at hl 1 rfl) ?_
    refine lv_if_lt (tgt := 35) hx hb dX4_lessonWord_21 (by decide) (fun c_2 => ?_) (fun c_2 => ?_)
    · skip
      have c_2 : k < 0 := (nI_ltI (a := k) (b := 0) (by omega) (by omega)).mp c_2
      exfalso; first | omega | (revert c_2; decide) | (exact absurd rfl c_2) | simp_all
    · skip
      have c_2 : ¬ k < 0 := fun hh => c_2 ((nI_ltI (a := k) (b := 0) (by omega) (by omega)).mpr hh)
      refine lv_iload_n hx hb dX4_lessonWord_24 rfl (lv_at hl 1 rfl) ?_
      refine lv_aload_n hx hb dX4_lessonWord_25 rfl (lv_at hl 0 rfl) ?_
      refine va_get (ci := 4) (v := .ref (h 11)) (C := RX4) (T := TX4) (N := 6) hx hb hts hinX4 hown hK hP 0 rfl rfl 3 (by decide) (hts (.fieldLink RX4 31 "TypingTutor" "current" "LTypingTutor$Lesson;") (List.mem_of_getElem? (i := 5) rfl)) (fun _ h9 => h9) rfl dX4_lessonWord_26 ?_
      refine zci (zrV (As := []) (rest := [.int (nI k)]) ⟨hx, hb, hml, hown, hts⟩ (zV 11 hP hD hK hE hB hS rfl rfl) (c_X2_wordTotal  ) (cwV 0 hts gX4_lessonWord_X2_wordTotal rfl rfl rfl hdv_X2_wordTotal ⟨Nat.le_of_ble_eq_true rfl, Nat.le_of_ble_eq_true rfl⟩) rfl rfl hl.1 rfl (lv_room (Nat.le_of_ble_eq_true rfl)) dX4_lessonWord_29 ⟨Nat.le_of_ble_eq_true rfl, Nat.le_of_ble_eq_true rfl⟩) hS (fun H locs hP hD hS => ?_)
      have hP : va_P D vwCl (zWT cI cJ h (n, L) (kt, km, kl) (pt, pm, pl) (nu, le, ow, fo, run, wc, lc, tr, cl, tm, ms) (yl, yc, yt, co, pa, su, sc) mc ++ R) _ := hP
      have hD : va_D (zAb B) (zWT cI cJ h (n, L) (kt, km, kl) (pt, pm, pl) (nu, le, ow, fo, run, wc, lc, tr, cl, tm, ms) (yl, yc, yt, co, pa, su, sc) mc ++ R) := hD
      refine lv_icmp_lt (tgt := 45) hx hb dX4_lessonWord_32 (by decide) (fun c_3 => ?_) (fun c_3 => ?_)
      · skip
        have c_3 : k < wc := (nI_ltI (a := k) (b := wc) (by omega) (by omega)).mp c_3
        refine lv_aload_n hx hb dX4_lessonWord_45 rfl (lv_at hl 0 rfl) ?_
        refine va_get (ci := 4) (v := .ref (h 11)) (C := RX4) (T := TX4) (N := 6) hx hb hts hinX4 hown hK hP 0 rfl rfl 3 (by decide) (hts (.fieldLink RX4 31 "TypingTutor" "current" "LTypingTutor$Lesson;") (List.mem_of_getElem? (i := 5) rfl)) (fun _ h9 => h9) rfl dX4_lessonWord_46 ?_
        refine lv_iload_n hx hb dX4_lessonWord_49 rfl (lv_at hl 1 rfl) ?_
        refine zci (zrV (As := [.int (nI k)]) (rest := []) ⟨hx, hb, hml, hown, hts⟩ (zV 11 hP hD hK hE hB hS rfl rfl) (c_X2_numberAt (k := k) (by omega)) (cwV 1 hts gX4_lessonWord_X2_numberAt rfl rfl rfl hdv_X2_numberAt ⟨Nat.le_of_ble_eq_true rfl, Nat.le_of_ble_eq_true rfl⟩) rfl rfl hl.1 rfl (lv_room (Nat.le_of_ble_eq_true rfl)) dX4_lessonWord_50 ⟨Nat.le_of_ble_eq_true rfl, Nat.le_of_ble_eq_true rfl⟩) hS (fun H locs hP hD hS => ?_)
        have hP : va_P D vwCl (zWT cI cJ h (n, L) (kt, km, kl) (pt, pm, pl) (nu, le, ow, fo, run, wc, lc, tr, cl, tm, ms) (yl, yc, yt, co, pa, su, sc) mc ++ R) _ := hP
        have hD : va_D (zAb B) (zWT cI cJ h (n, L) (kt, km, kl) (pt, pm, pl) (nu, le, ow, fo, run, wc, lc, tr, cl, tm, ms) (yl, yc, yt, co, pa, su, sc) mc ++ R) := hD
        exact W.iret (v := (nu k)) hx hb hr (fun t ht hW => ⟨⟨_, (), rfl, rfl, by rw [ht]; exact hP, hD⟩, hS.F ht⟩) hS.2.2 dX4_lessonWord_53
      · skip
        have c_3 : ¬ k < wc := fun hh => c_3 ((nI_ltI (a := k) (b := wc) (by omega) (by omega)).mpr hh)
        exfalso; first | omega | (revert c_3; decide) | (exact absurd rfl c_3) | simp_all
  · skip
    have c_1 : run = false := zb_0 c_1
    exact absurd (c_1.symm.trans hrun) (by decide)

set_option maxHeartbeats 4000000 in
set_option maxRecDepth 100000 in
theorem c_X4_lessonWord_x1 {l : Launch} {B kr kp : Nat} {D : va_G} {cI cJ cZ : ClassId} {h : Nat → Nat} {R : va_W} {n : Nat} {L : Nat → Int64} {kt : Nat → Int32} {km : Nat → Int32} {kl : Nat → Int32} {pt : Nat → Int32} {pm : Nat → Int32} {pl : Nat → Int32} {nu : Nat → Int32} {le : Nat → Int32} {ow : Nat → Int32} {fo : Nat → Int32} {run : Bool} {wc : Nat} {lc : Nat} {tr : Nat} {cl : Nat} {tm : Nat} {ms : Nat} {yl : Nat → Int32} {yc : Nat → Int32} {yt : Nat → Int32} {co : Nat} {pa : Int32} {su : Nat} {sc : Nat} {mc : Nat → Int32} {i : Int32}   (hls : l.stackTraces = false) (hrun : run = false) : vx_Met l yX4_lessonWord wsX4_lessonWord ({ frames := 6, cells := 1, slots := 6, locals := 82 }) (zPc B kr kp D (zTy cI cJ cZ) (zWT cI cJ h (n, L) (kt, km, kl) (pt, pm, pl) (nu, le, ow, fo, run, wc, lc, tr, cl, tm, ms) (yl, yc, yt, co, pa, su, sc) mc ++ R) [.ref (h 0), .int i]) (zQxi B D (zWT cI cJ h (n, L) (kt, km, kl) (pt, pm, pl) (nu, le, ow, fo, run, wc, lc, tr, cl, tm, ms) (yl, yc, yt, co, pa, su, sc) mc ++ R)) (zXC "java/lang/IllegalStateException" B D (zWT cI cJ h (n, L) (kt, km, kl) (pt, pm, pl) (nu, le, ow, fo, run, wc, lc, tr, cl, tm, ms) (yl, yc, yt, co, pa, su, sc) mc ++ R)) 1 6 (zAb B) := by
  refine vx_ofW (cc := cX4_lessonWord) (maxL := 2) (ret := (some .int)) (by decide) rfl ?_
  intro p e s m args below meth c s₁ B0 hml ht9 hv
  obtain ⟨rfl, hP, hD, hK, hE, hB⟩ := hv
  have hx := B0.exec
  have hb := B0.bytes
  have hr := B0.returns
  have hts := atoms_spec (ws := wsX4_lessonWord) B0.pre
  have hown : s.vm.findClass RX4 = some m.cls := findClass_of_methodNamed B0.named
  have hlocks := B0.notSynchronized
  have hA : ∀ q : Nat, s.heap.size ≤ q → zAb B q := fun q hq => Nat.le_trans hB hq
  have hS : va_S (zAb B) s.heap s.heap [] := va_S.rf
  have hl := lv_entry ([.ref (h 0), .int i]) (n := 2) (Nat.le_of_ble_eq_true rfl)
  rw [lg_entry_eq]
  generalize (lg_sl ([.ref (h 0), .int i]) ++ List.replicate (2 - (lg_sl ([.ref (h 0), .int i])).length) Slot.unset).toArray = ls at hl ⊢
  have hl : lv_has ls 2 [(0, .ref (h 0)), (1, .int i)] := hl
  have hinX4 : ∀ w ∈ wsX40, w ∈ wsX4_lessonWord := fun _ h => List.mem_cons_of_mem _ (List.mem_append_left _ (List.mem_append_left _ (List.mem_append_left _ (List.mem_append_right _ h))))
  have hP : va_P D vwCl (zWT cI cJ h (n, L) (kt, km, kl) (pt, pm, pl) (nu, le, ow, fo, run, wc, lc, tr, cl, tm, ms) (yl, yc, yt, co, pa, su, sc) mc ++ R) s.heap := hP
  have hD : va_D (zAb B) (zWT cI cJ h (n, L) (kt, km, kl) (pt, pm, pl) (nu, le, ow, fo, run, wc, lc, tr, cl, tm, ms) (yl, yc, yt, co, pa, su, sc) mc ++ R) := hD
  refine lv_aload_n hx hb dX4_lessonWord_0 rfl (lv_at hl 0 rfl) ?_
  refine va_get (ci := 4) (v := .ref (h 11)) (C := RX4) (T := TX4) (N := 6) hx hb hts hinX4 hown hK hP 0 rfl rfl 3 (by decide) (hts (.fieldLink RX4 31 "TypingTutor" "current" "LTypingTutor$Lesson;") (List.mem_of_getElem? (i := 5) rfl)) (fun _ h9 => h9) rfl dX4_lessonWord_1 ?_
  refine zci (zrV (As := []) (rest := []) ⟨hx, hb, hml, hown, hts⟩ (zV 11 hP hD hK hE hB hS rfl rfl) (c_X2_isRunning  ) (cwV 0 hts gX4_lessonWord_X2_isRunning rfl rfl rfl hdv_X2_isRunning ⟨Nat.le_of_ble_eq_true rfl, Nat.le_of_ble_eq_true rfl⟩) rfl rfl hl.1 rfl (lv_room (Nat.le_of_ble_eq_true rfl)) dX4_lessonWord_4 ⟨Nat.le_of_ble_eq_true rfl, Nat.le_of_ble_eq_true rfl⟩) hS (fun H locs hP hD hS => ?_)
  have hP : va_P D vwCl (zWT cI cJ h (n, L) (kt, km, kl) (pt, pm, pl) (nu, le, ow, fo, run, wc, lc, tr, cl, tm, ms) (yl, yc, yt, co, pa, su, sc) mc ++ R) _ := hP
  have hD : va_D (zAb B) (zWT cI cJ h (n, L) (kt, km, kl) (pt, pm, pl) (nu, le, ow, fo, run, wc, lc, tr, cl, tm, ms) (yl, yc, yt, co, pa, su, sc) mc ++ R) := hD
  refine lv_if_ne (tgt := 20) hx hb dX4_lessonWord_7 (by decide) (fun c_1 => ?_) (fun c_1 => ?_)
  · skip
    have c_1 : run = true := zb_n c_1
    exact absurd (c_1.symm.trans hrun) (by decide)
  · skip
    have c_1 : run = false := zb_0 c_1
    exact zthrow hx hb hls hown hE hP hD hS (hl.1.trans hml.symm) ht9 hlocks (by decide +kernel) (List.mem_of_getElem? (i := 7) rfl) (by decide +kernel) (hts (.classLink RX4 64 "java/lang/IllegalStateException") (List.mem_of_getElem? (i := 1) rfl)) (hts (.initialized "java/lang/IllegalStateException") (List.mem_of_getElem? (i := 2) rfl)) (fun w h9 => hts w (List.mem_cons_of_mem _ (List.mem_append_left _ (List.mem_append_right _ h9)))) (by decide +kernel) (by decide +kernel) dX4_lessonWord_10 dX4_lessonWord_13 dX4_lessonWord_14 dX4_lessonWord_16 dX4_lessonWord_19 ⟨Nat.le_of_ble_eq_true rfl, Nat.le_of_ble_eq_true rfl, Nat.le_of_ble_eq_true rfl, Nat.le_of_ble_eq_true rfl⟩

set_option maxHeartbeats 4000000 in
set_option maxRecDepth 100000 in
theorem c_X4_lessonWord_x2 {l : Launch} {B kr kp : Nat} {D : va_G} {cI cJ cZ : ClassId} {h : Nat → Nat} {R : va_W} {n : Nat} {L : Nat → Int64} {kt : Nat → Int32} {km : Nat → Int32} {kl : Nat → Int32} {pt : Nat → Int32} {pm : Nat → Int32} {pl : Nat → Int32} {nu : Nat → Int32} {le : Nat → Int32} {ow : Nat → Int32} {fo : Nat → Int32} {run : Bool} {wc : Nat} {lc : Nat} {tr : Nat} {cl : Nat} {tm : Nat} {ms : Nat} {yl : Nat → Int32} {yc : Nat → Int32} {yt : Nat → Int32} {co : Nat} {pa : Int32} {su : Nat} {sc : Nat} {mc : Nat → Int32} {i : Int32}   (hls : l.stackTraces = false) (hrun : run = true) (hi : i < 0 ∨ ¬ i < nI wc) : vx_Met l yX4_lessonWord wsX4_lessonWord ({ frames := 6, cells := 1, slots := 6, locals := 82 }) (zPc B kr kp D (zTy cI cJ cZ) (zWT cI cJ h (n, L) (kt, km, kl) (pt, pm, pl) (nu, le, ow, fo, run, wc, lc, tr, cl, tm, ms) (yl, yc, yt, co, pa, su, sc) mc ++ R) [.ref (h 0), .int i]) (zQxi B D (zWT cI cJ h (n, L) (kt, km, kl) (pt, pm, pl) (nu, le, ow, fo, run, wc, lc, tr, cl, tm, ms) (yl, yc, yt, co, pa, su, sc) mc ++ R)) (zXC "java/lang/IndexOutOfBoundsException" B D (zWT cI cJ h (n, L) (kt, km, kl) (pt, pm, pl) (nu, le, ow, fo, run, wc, lc, tr, cl, tm, ms) (yl, yc, yt, co, pa, su, sc) mc ++ R)) 1 6 (zAb B) := by
  refine vx_ofW (cc := cX4_lessonWord) (maxL := 2) (ret := (some .int)) (by decide) rfl ?_
  intro p e s m args below meth c s₁ B0 hml ht9 hv
  obtain ⟨rfl, hP, hD, hK, hE, hB⟩ := hv
  have hx := B0.exec
  have hb := B0.bytes
  have hr := B0.returns
  have hts := atoms_spec (ws := wsX4_lessonWord) B0.pre
  have hown : s.vm.findClass RX4 = some m.cls := findClass_of_methodNamed B0.named
  have hlocks := B0.notSynchronized
  have hA : ∀ q : Nat, s.heap.size ≤ q → zAb B q := fun q hq => Nat.le_trans hB hq
  have hS : va_S (zAb B) s.heap s.heap [] := va_S.rf
  have hl := lv_entry ([.ref (h 0), .int i]) (n := 2) (Nat.le_of_ble_eq_true rfl)
  rw [lg_entry_eq]
  generalize (lg_sl ([.ref (h 0), .int i]) ++ List.replicate (2 - (lg_sl ([.ref (h 0), .int i])).length) Slot.unset).toArray = ls at hl ⊢
  have hl : lv_has ls 2 [(0, .ref (h 0)), (1, .int i)] := hl
  have hinX4 : ∀ w ∈ wsX40, w ∈ wsX4_lessonWord := fun _ h => List.mem_cons_of_mem _ (List.mem_append_left _ (List.mem_append_left _ (List.mem_append_left _ (List.mem_append_right _ h))))
  have hP : va_P D vwCl (zWT cI cJ h (n, L) (kt, km, kl) (pt, pm, pl) (nu, le, ow, fo, run, wc, lc, tr, cl, tm, ms) (yl, yc, yt, co, pa, su, sc) mc ++ R) s.heap := hP
  have hD : va_D (zAb B) (zWT cI cJ h (n, L) (kt, km, kl) (pt, pm, pl) (nu, le, ow, fo, run, wc, lc, tr, cl, tm, ms) (yl, yc, yt, co, pa, su, sc) mc ++ R) := hD
  refine lv_aload_n hx hb dX4_lessonWord_0 rfl (lv_at hl 0 rfl) ?_
  refine va_get (ci := 4) (v := .ref (h 11)) (C := RX4) (T := TX4) (N := 6) hx hb hts hinX4 hown hK hP 0 rfl rfl 3 (by decide) (hts (.fieldLink RX4 31 "TypingTutor" "current" "LTypingTutor$Lesson;") (List.mem_of_getElem? (i := 5) rfl)) (fun _ h9 => h9) rfl dX4_lessonWord_1 ?_
  refine zci (zrV (As := []) (rest := []) ⟨hx, hb, hml, hown, hts⟩ (zV 11 hP hD hK hE hB hS rfl rfl) (c_X2_isRunning  ) (cwV 0 hts gX4_lessonWord_X2_isRunning rfl rfl rfl hdv_X2_isRunning ⟨Nat.le_of_ble_eq_true rfl, Nat.le_of_ble_eq_true rfl⟩) rfl rfl hl.1 rfl (lv_room (Nat.le_of_ble_eq_true rfl)) dX4_lessonWord_4 ⟨Nat.le_of_ble_eq_true rfl, Nat.le_of_ble_eq_true rfl⟩) hS (fun H locs hP hD hS => ?_)
  have hP : va_P D vwCl (zWT cI cJ h (n, L) (kt, km, kl) (pt, pm, pl) (nu, le, ow, fo, run, wc, lc, tr, cl, tm, ms) (yl, yc, yt, co, pa, su, sc) mc ++ R) _ := hP
  have hD : va_D (zAb B) (zWT cI cJ h (n, L) (kt, km, kl) (pt, pm, pl) (nu, le, ow, fo, run, wc, lc, tr, cl, tm, ms) (yl, yc, yt, co, pa, su, sc) mc ++ R) := hD
  refine lv_if_ne (tgt := 20) hx hb dX4_lessonWord_7 (by decide) (fun c_1 => ?_) (fun c_1 => ?_)
  · skip
    have c_1 : run = true := zb_n c_1
    refine lv_iload_n hx hb dX4_lessonWord_20 rfl (lv_at hl 1 rfl) ?_
    refine lv_if_lt (tgt := 35) hx hb dX4_lessonWord_21 (by decide) (fun c_2 => ?_) (fun c_2 => ?_)
    · skip
      exact zthrow hx hb hls hown hE hP hD hS (hl.1.trans hml.symm) ht9 hlocks (by decide +kernel) (List.mem_of_getElem? (i := 8) rfl) (by decide +kernel) (hts (.classLink RX4 81 "java/lang/IndexOutOfBoundsException") (List.mem_of_getElem? (i := 3) rfl)) (hts (.initialized "java/lang/IndexOutOfBoundsException") (List.mem_of_getElem? (i := 4) rfl)) (fun w h9 => hts w (List.mem_cons_of_mem _ (List.mem_append_right _ h9))) (by decide +kernel) (by decide +kernel) dX4_lessonWord_35 dX4_lessonWord_38 dX4_lessonWord_39 dX4_lessonWord_41 dX4_lessonWord_44 ⟨Nat.le_of_ble_eq_true rfl, Nat.le_of_ble_eq_true rfl, Nat.le_of_ble_eq_true rfl, Nat.le_of_ble_eq_true rfl⟩
    · skip
      refine lv_iload_n hx hb dX4_lessonWord_24 rfl (lv_at hl 1 rfl) ?_
      refine lv_aload_n hx hb dX4_lessonWord_25 rfl (lv_at hl 0 rfl) ?_
      refine va_get (ci := 4) (v := .ref (h 11)) (C := RX4) (T := TX4) (N := 6) hx hb hts hinX4 hown hK hP 0 rfl rfl 3 (by decide) (hts (.fieldLink RX4 31 "TypingTutor" "current" "LTypingTutor$Lesson;") (List.mem_of_getElem? (i := 5) rfl)) (fun _ h9 => h9) rfl dX4_lessonWord_26 ?_
      refine zci (zrV (As := []) (rest := [.int i]) ⟨hx, hb, hml, hown, hts⟩ (zV 11 hP hD hK hE hB hS rfl rfl) (c_X2_wordTotal  ) (cwV 0 hts gX4_lessonWord_X2_wordTotal rfl rfl rfl hdv_X2_wordTotal ⟨Nat.le_of_ble_eq_true rfl, Nat.le_of_ble_eq_true rfl⟩) rfl rfl hl.1 rfl (lv_room (Nat.le_of_ble_eq_true rfl)) dX4_lessonWord_29 ⟨Nat.le_of_ble_eq_true rfl, Nat.le_of_ble_eq_true rfl⟩) hS (fun H locs hP hD hS => ?_)
      have hP : va_P D vwCl (zWT cI cJ h (n, L) (kt, km, kl) (pt, pm, pl) (nu, le, ow, fo, run, wc, lc, tr, cl, tm, ms) (yl, yc, yt, co, pa, su, sc) mc ++ R) _ := hP
      have hD : va_D (zAb B) (zWT cI cJ h (n, L) (kt, km, kl) (pt, pm, pl) (nu, le, ow, fo, run, wc, lc, tr, cl, tm, ms) (yl, yc, yt, co, pa, su, sc) mc ++ R) := hD
      refine lv_icmp_lt (tgt := 45) hx hb dX4_lessonWord_32 (by decide) (fun c_3 => ?_) (fun c_3 => ?_)
      · skip
        exact hi.elim (fun q => absurd q c_2) (fun q => absurd c_3 q)
      · skip
        exact zthrow hx hb hls hown hE hP hD hS (hl.1.trans hml.symm) ht9 hlocks (by decide +kernel) (List.mem_of_getElem? (i := 8) rfl) (by decide +kernel) (hts (.classLink RX4 81 "java/lang/IndexOutOfBoundsException") (List.mem_of_getElem? (i := 3) rfl)) (hts (.initialized "java/lang/IndexOutOfBoundsException") (List.mem_of_getElem? (i := 4) rfl)) (fun w h9 => hts w (List.mem_cons_of_mem _ (List.mem_append_right _ h9))) (by decide +kernel) (by decide +kernel) dX4_lessonWord_35 dX4_lessonWord_38 dX4_lessonWord_39 dX4_lessonWord_41 dX4_lessonWord_44 ⟨Nat.le_of_ble_eq_true rfl, Nat.le_of_ble_eq_true rfl, Nat.le_of_ble_eq_true rfl, Nat.le_of_ble_eq_true rfl⟩
  · skip
    have c_1 : run = false := zb_0 c_1
    exact absurd (c_1.symm.trans hrun) (by decide)

set_option maxHeartbeats 4000000 in
set_option maxRecDepth 100000 in
theorem c_X4_key_0 {l : Launch} {B kr kp : Nat} {D : va_G} {cI cJ cZ : ClassId} {h : Nat → Nat} {R : va_W} {n : Nat} {L : Nat → Int64} {kt : Nat → Int32} {km : Nat → Int32} {kl : Nat → Int32} {pt : Nat → Int32} {pm : Nat → Int32} {pl : Nat → Int32} {nu : Nat → Int32} {le : Nat → Int32} {ow : Nat → Int32} {fo : Nat → Int32} {run : Bool} {wc : Nat} {lc : Nat} {tr : Nat} {cl : Nat} {tm : Nat} {ms : Nat} {yl : Nat → Int32} {yc : Nat → Int32} {yt : Nat → Int32} {co : Nat} {pa : Int32} {su : Nat} {sc : Nat} {mc : Nat → Int32} {k : Nat}   (hk : k < 26) : Met l yX4_key wsX4_key ({ frames := 2, cells := 0, slots := 0, locals := 43 }) (zPc B kr kp D (zTy cI cJ cZ) (zWT cI cJ h (n, L) (kt, km, kl) (pt, pm, pl) (nu, le, ow, fo, run, wc, lc, tr, cl, tm, ms) (yl, yc, yt, co, pa, su, sc) mc ++ R) [.ref (h 0), .int (nI k), .int 0]) (zQi B D (zWT cI cJ h (n, L) (kt, km, kl) (pt, pm, pl) (nu, le, ow, fo, run, wc, lc, tr, cl, tm, ms) (yl, yc, yt, co, pa, su, sc) mc ++ R) (kt k)) 0 0 (zAb B) := by
  refine Met.ofW (cc := cX4_key) (maxL := 3) (ret := (some .int)) (by decide) rfl ?_
  intro p e s m args below meth c s₁ B0 hml hv
  obtain ⟨rfl, hP, hD, hK, hE, hB⟩ := hv
  have hx := B0.exec
  have hb := B0.bytes
  have hr := B0.returns
  have hts := atoms_spec (ws := wsX4_key) B0.pre
  have hown : s.vm.findClass RX4 = some m.cls := findClass_of_methodNamed B0.named
  have hlocks := B0.notSynchronized
  have hA : ∀ q : Nat, s.heap.size ≤ q → zAb B q := fun q hq => Nat.le_trans hB hq
  have hS : va_S (zAb B) s.heap s.heap [] := va_S.rf
  have hl := lv_entry ([.ref (h 0), .int (nI k), .int 0]) (n := 3) (Nat.le_of_ble_eq_true rfl)
  rw [lg_entry_eq]
  generalize (lg_sl ([.ref (h 0), .int (nI k), .int 0]) ++ List.replicate (3 - (lg_sl ([.ref (h 0), .int (nI k), .int 0])).length) Slot.unset).toArray = ls at hl ⊢
  have hl : lv_has ls 3 [(0, .ref (h 0)), (1, .int (nI k)), (2, .int 0)] := hl
  have hinX4 : ∀ w ∈ wsX40, w ∈ wsX4_key := fun _ h => List.mem_cons_of_mem _ (List.mem_append_left _ (List.mem_append_left _ (List.mem_append_right _ h)))
  have hP : va_P D vwCl (zWT cI cJ h (n, L) (kt, km, kl) (pt, pm, pl) (nu, le, ow, fo, run, wc, lc, tr, cl, tm, ms) (yl, yc, yt, co, pa, su, sc) mc ++ R) s.heap := hP
  have hD : va_D (zAb B) (zWT cI cJ h (n, L) (kt, km, kl) (pt, pm, pl) (nu, le, ow, fo, run, wc, lc, tr, cl, tm, ms) (yl, yc, yt, co, pa, su, sc) mc ++ R) := hD
  refine lv_iload_n hx hb dX4_key_0 rfl (lv_at hl 1 rfl) ?_
  refine zci (zrS (As := [.int (nI k)]) (rest := []) ⟨hx, hb, hml, hown, hts⟩ (zS hP hD hK hE hB hS) (c_X4_isKey  ) (va_cwS 1 hts gX4_key_X4_isKey rfl rfl rfl hds_X4_isKey ⟨Nat.le_of_ble_eq_true rfl, Nat.le_of_ble_eq_true rfl⟩) rfl rfl hl.1 rfl (lv_room (Nat.le_of_ble_eq_true rfl)) dX4_key_1 ⟨Nat.le_of_ble_eq_true rfl, Nat.le_of_ble_eq_true rfl⟩) hS (fun H locs hP hD hS => ?_)
  have hP : va_P D vwCl (zWT cI cJ h (n, L) (kt, km, kl) (pt, pm, pl) (nu, le, ow, fo, run, wc, lc, tr, cl, tm, ms) (yl, yc, yt, co, pa, su, sc) mc ++ R) _ := hP
  have hD : va_D (zAb B) (zWT cI cJ h (n, L) (kt, km, kl) (pt, pm, pl) (nu, le, ow, fo, run, wc, lc, tr, cl, tm, ms) (yl, yc, yt, co, pa, su, sc) mc ++ R) := hD
  refine lv_if_eq (tgt := 16) hx hb dX4_key_4 (by decide) (fun c_1 => ?_) (fun c_1 => ?_)
  · skip
    have c_1 := zq_0 c_1
    exact absurd ⟨nI_pos (by omega), nI_ge hk (by decide)⟩ c_1
  · skip
    have c_1 := zq_n c_1
    refine lv_iload_n hx hb dX4_key_7 rfl (lv_at hl 2 rfl) ?_
    refine lv_if_lt (tgt := 16) hx hb dX4_key_8 (by decide) (fun c_2 => ?_) (fun c_2 => ?_)
    · skip
      exfalso; first | omega | (revert c_2; decide) | (exact absurd rfl c_2) | simp_all
    · skip
      refine lv_iload_n hx hb dX4_key_11 rfl (lv_at hl 2 rfl) ?_
      refine lv_iconst (v := 2) hx hb dX4_key_12 (by decide) ?_
      refine lv_icmp_le (tgt := 26) hx hb dX4_key_13 (by decide) (fun c_3 => ?_) (fun c_3 => ?_)
      · skip
        refine lv_aload_n hx hb dX4_key_26 rfl (lv_at hl 0 rfl) ?_
        refine va_get (ci := 4) (v := .ref (h 3)) (C := RX4) (T := TX4) (N := 6) hx hb hts hinX4 hown hK hP 0 rfl rfl 1 (by decide) (hts (.fieldLink RX4 21 "TypingTutor" "keys" "LTypingTutor$Knowledge;") (List.mem_of_getElem? (i := 3) rfl)) (fun _ h9 => h9) rfl dX4_key_27 ?_
        refine lv_iload_n hx hb dX4_key_30 rfl (lv_at hl 1 rfl) ?_
        refine lv_iload_n hx hb dX4_key_31 rfl (lv_at hl 2 rfl) ?_
        refine zci (zrV (As := [.int (nI k), .int 0]) (rest := []) ⟨hx, hb, hml, hown, hts⟩ (zV 3 hP hD hK hE hB hS rfl rfl) (c_X1_tell_k0 (k := k) (by omega)) (cwV 2 hts gX4_key_X1_tell rfl rfl rfl hdv_X1_tell ⟨Nat.le_of_ble_eq_true rfl, Nat.le_of_ble_eq_true rfl⟩) rfl rfl hl.1 rfl (lv_room (Nat.le_of_ble_eq_true rfl)) dX4_key_32 ⟨Nat.le_of_ble_eq_true rfl, Nat.le_of_ble_eq_true rfl⟩) hS (fun H locs hP hD hS => ?_)
        have hP : va_P D vwCl (zWT cI cJ h (n, L) (kt, km, kl) (pt, pm, pl) (nu, le, ow, fo, run, wc, lc, tr, cl, tm, ms) (yl, yc, yt, co, pa, su, sc) mc ++ R) _ := hP
        have hD : va_D (zAb B) (zWT cI cJ h (n, L) (kt, km, kl) (pt, pm, pl) (nu, le, ow, fo, run, wc, lc, tr, cl, tm, ms) (yl, yc, yt, co, pa, su, sc) mc ++ R) := hD
        exact W.iret (v := (kt k)) hx hb hr (fun t ht hW => ⟨⟨_, (), rfl, rfl, by rw [ht]; exact hP, hD⟩, hS.F ht⟩) hS.2.2 dX4_key_35
      · skip
        exfalso; first | omega | (revert c_3; decide) | (exact absurd rfl c_3) | simp_all

set_option maxHeartbeats 4000000 in
set_option maxRecDepth 100000 in
theorem c_X4_key_1 {l : Launch} {B kr kp : Nat} {D : va_G} {cI cJ cZ : ClassId} {h : Nat → Nat} {R : va_W} {n : Nat} {L : Nat → Int64} {kt : Nat → Int32} {km : Nat → Int32} {kl : Nat → Int32} {pt : Nat → Int32} {pm : Nat → Int32} {pl : Nat → Int32} {nu : Nat → Int32} {le : Nat → Int32} {ow : Nat → Int32} {fo : Nat → Int32} {run : Bool} {wc : Nat} {lc : Nat} {tr : Nat} {cl : Nat} {tm : Nat} {ms : Nat} {yl : Nat → Int32} {yc : Nat → Int32} {yt : Nat → Int32} {co : Nat} {pa : Int32} {su : Nat} {sc : Nat} {mc : Nat → Int32} {k : Nat}   (hk : k < 26) : Met l yX4_key wsX4_key ({ frames := 2, cells := 0, slots := 0, locals := 43 }) (zPc B kr kp D (zTy cI cJ cZ) (zWT cI cJ h (n, L) (kt, km, kl) (pt, pm, pl) (nu, le, ow, fo, run, wc, lc, tr, cl, tm, ms) (yl, yc, yt, co, pa, su, sc) mc ++ R) [.ref (h 0), .int (nI k), .int 1]) (zQi B D (zWT cI cJ h (n, L) (kt, km, kl) (pt, pm, pl) (nu, le, ow, fo, run, wc, lc, tr, cl, tm, ms) (yl, yc, yt, co, pa, su, sc) mc ++ R) (km k)) 0 0 (zAb B) := by
  refine Met.ofW (cc := cX4_key) (maxL := 3) (ret := (some .int)) (by decide) rfl ?_
  intro p e s m args below meth c s₁ B0 hml hv
  obtain ⟨rfl, hP, hD, hK, hE, hB⟩ := hv
  have hx := B0.exec
  have hb := B0.bytes
  have hr := B0.returns
  have hts := atoms_spec (ws := wsX4_key) B0.pre
  have hown : s.vm.findClass RX4 = some m.cls := findClass_of_methodNamed B0.named
  have hlocks := B0.notSynchronized
  have hA : ∀ q : Nat, s.heap.size ≤ q → zAb B q := fun q hq => Nat.le_trans hB hq
  have hS : va_S (zAb B) s.heap s.heap [] := va_S.rf
  have hl := lv_entry ([.ref (h 0), .int (nI k), .int 1]) (n := 3) (Nat.le_of_ble_eq_true rfl)
  rw [lg_entry_eq]
  generalize (lg_sl ([.ref (h 0), .int (nI k), .int 1]) ++ List.replicate (3 - (lg_sl ([.ref (h 0), .int (nI k), .int 1])).length) Slot.unset).toArray = ls at hl ⊢
  have hl : lv_has ls 3 [(0, .ref (h 0)), (1, .int (nI k)), (2, .int 1)] := hl
  have hinX4 : ∀ w ∈ wsX40, w ∈ wsX4_key := fun _ h => List.mem_cons_of_mem _ (List.mem_append_left _ (List.mem_append_left _ (List.mem_append_right _ h)))
  have hP : va_P D vwCl (zWT cI cJ h (n, L) (kt, km, kl) (pt, pm, pl) (nu, le, ow, fo, run, wc, lc, tr, cl, tm, ms) (yl, yc, yt, co, pa, su, sc) mc ++ R) s.heap := hP
  have hD : va_D (zAb B) (zWT cI cJ h (n, L) (kt, km, kl) (pt, pm, pl) (nu, le, ow, fo, run, wc, lc, tr, cl, tm, ms) (yl, yc, yt, co, pa, su, sc) mc ++ R) := hD
  refine lv_iload_n hx hb dX4_key_0 rfl (lv_at hl 1 rfl) ?_
  refine zci (zrS (As := [.int (nI k)]) (rest := []) ⟨hx, hb, hml, hown, hts⟩ (zS hP hD hK hE hB hS) (c_X4_isKey  ) (va_cwS 1 hts gX4_key_X4_isKey rfl rfl rfl hds_X4_isKey ⟨Nat.le_of_ble_eq_true rfl, Nat.le_of_ble_eq_true rfl⟩) rfl rfl hl.1 rfl (lv_room (Nat.le_of_ble_eq_true rfl)) dX4_key_1 ⟨Nat.le_of_ble_eq_true rfl, Nat.le_of_ble_eq_true rfl⟩) hS (fun H locs hP hD hS => ?_)
  have hP : va_P D vwCl (zWT cI cJ h (n, L) (kt, km, kl) (pt, pm, pl) (nu, le, ow, fo, run, wc, lc, tr, cl, tm, ms) (yl, yc, yt, co, pa, su, sc) mc ++ R) _ := hP
  have hD : va_D (zAb B) (zWT cI cJ h (n, L) (kt, km, kl) (pt, pm, pl) (nu, le, ow, fo, run, wc, lc, tr, cl, tm, ms) (yl, yc, yt, co, pa, su, sc) mc ++ R) := hD
  refine lv_if_eq (tgt := 16) hx hb dX4_key_4 (by decide) (fun c_1 => ?_) (fun c_1 => ?_)
  · skip
    have c_1 := zq_0 c_1
    exact absurd ⟨nI_pos (by omega), nI_ge hk (by decide)⟩ c_1
  · skip
    have c_1 := zq_n c_1
    refine lv_iload_n hx hb dX4_key_7 rfl (lv_at hl 2 rfl) ?_
    refine lv_if_lt (tgt := 16) hx hb dX4_key_8 (by decide) (fun c_2 => ?_) (fun c_2 => ?_)
    · skip
      exfalso; first | omega | (revert c_2; decide) | (exact absurd rfl c_2) | simp_all
    · skip
      refine lv_iload_n hx hb dX4_key_11 rfl (lv_at hl 2 rfl) ?_
      refine lv_iconst (v := 2) hx hb dX4_key_12 (by decide) ?_
      refine lv_icmp_le (tgt := 26) hx hb dX4_key_13 (by decide) (fun c_3 => ?_) (fun c_3 => ?_)
      · skip
        refine lv_aload_n hx hb dX4_key_26 rfl (lv_at hl 0 rfl) ?_
        refine va_get (ci := 4) (v := .ref (h 3)) (C := RX4) (T := TX4) (N := 6) hx hb hts hinX4 hown hK hP 0 rfl rfl 1 (by decide) (hts (.fieldLink RX4 21 "TypingTutor" "keys" "LTypingTutor$Knowledge;") (List.mem_of_getElem? (i := 3) rfl)) (fun _ h9 => h9) rfl dX4_key_27 ?_
        refine lv_iload_n hx hb dX4_key_30 rfl (lv_at hl 1 rfl) ?_
        refine lv_iload_n hx hb dX4_key_31 rfl (lv_at hl 2 rfl) ?_
        refine zci (zrV (As := [.int (nI k), .int 1]) (rest := []) ⟨hx, hb, hml, hown, hts⟩ (zV 3 hP hD hK hE hB hS rfl rfl) (c_X1_tell_k1 (k := k) (by omega)) (cwV 2 hts gX4_key_X1_tell rfl rfl rfl hdv_X1_tell ⟨Nat.le_of_ble_eq_true rfl, Nat.le_of_ble_eq_true rfl⟩) rfl rfl hl.1 rfl (lv_room (Nat.le_of_ble_eq_true rfl)) dX4_key_32 ⟨Nat.le_of_ble_eq_true rfl, Nat.le_of_ble_eq_true rfl⟩) hS (fun H locs hP hD hS => ?_)
        have hP : va_P D vwCl (zWT cI cJ h (n, L) (kt, km, kl) (pt, pm, pl) (nu, le, ow, fo, run, wc, lc, tr, cl, tm, ms) (yl, yc, yt, co, pa, su, sc) mc ++ R) _ := hP
        have hD : va_D (zAb B) (zWT cI cJ h (n, L) (kt, km, kl) (pt, pm, pl) (nu, le, ow, fo, run, wc, lc, tr, cl, tm, ms) (yl, yc, yt, co, pa, su, sc) mc ++ R) := hD
        exact W.iret (v := (km k)) hx hb hr (fun t ht hW => ⟨⟨_, (), rfl, rfl, by rw [ht]; exact hP, hD⟩, hS.F ht⟩) hS.2.2 dX4_key_35
      · skip
        exfalso; first | omega | (revert c_3; decide) | (exact absurd rfl c_3) | simp_all

set_option maxHeartbeats 4000000 in
set_option maxRecDepth 100000 in
theorem c_X4_key_2 {l : Launch} {B kr kp : Nat} {D : va_G} {cI cJ cZ : ClassId} {h : Nat → Nat} {R : va_W} {n : Nat} {L : Nat → Int64} {kt : Nat → Int32} {km : Nat → Int32} {kl : Nat → Int32} {pt : Nat → Int32} {pm : Nat → Int32} {pl : Nat → Int32} {nu : Nat → Int32} {le : Nat → Int32} {ow : Nat → Int32} {fo : Nat → Int32} {run : Bool} {wc : Nat} {lc : Nat} {tr : Nat} {cl : Nat} {tm : Nat} {ms : Nat} {yl : Nat → Int32} {yc : Nat → Int32} {yt : Nat → Int32} {co : Nat} {pa : Int32} {su : Nat} {sc : Nat} {mc : Nat → Int32} {k : Nat}   (hk : k < 26) : Met l yX4_key wsX4_key ({ frames := 2, cells := 0, slots := 0, locals := 43 }) (zPc B kr kp D (zTy cI cJ cZ) (zWT cI cJ h (n, L) (kt, km, kl) (pt, pm, pl) (nu, le, ow, fo, run, wc, lc, tr, cl, tm, ms) (yl, yc, yt, co, pa, su, sc) mc ++ R) [.ref (h 0), .int (nI k), .int 2]) (zQi B D (zWT cI cJ h (n, L) (kt, km, kl) (pt, pm, pl) (nu, le, ow, fo, run, wc, lc, tr, cl, tm, ms) (yl, yc, yt, co, pa, su, sc) mc ++ R) (kl k)) 0 0 (zAb B) := by
  refine Met.ofW (cc := cX4_key) (maxL := 3) (ret := (some .int)) (by decide) rfl ?_
  intro p e s m args below meth c s₁ B0 hml hv
  obtain ⟨rfl, hP, hD, hK, hE, hB⟩ := hv
  have hx := B0.exec
  have hb := B0.bytes
  have hr := B0.returns
  have hts := atoms_spec (ws := wsX4_key) B0.pre
  have hown : s.vm.findClass RX4 = some m.cls := findClass_of_methodNamed B0.named
  have hlocks := B0.notSynchronized
  have hA : ∀ q : Nat, s.heap.size ≤ q → zAb B q := fun q hq => Nat.le_trans hB hq
  have hS : va_S (zAb B) s.heap s.heap [] := va_S.rf
  have hl := lv_entry ([.ref (h 0), .int (nI k), .int 2]) (n := 3) (Nat.le_of_ble_eq_true rfl)
  rw [lg_entry_eq]
  generalize (lg_sl ([.ref (h 0), .int (nI k), .int 2]) ++ List.replicate (3 - (lg_sl ([.ref (h 0), .int (nI k), .int 2])).length) Slot.unset).toArray = ls at hl ⊢
  have hl : lv_has ls 3 [(0, .ref (h 0)), (1, .int (nI k)), (2, .int 2)] := hl
  have hinX4 : ∀ w ∈ wsX40, w ∈ wsX4_key := fun _ h => List.mem_cons_of_mem _ (List.mem_append_left _ (List.mem_append_left _ (List.mem_append_right _ h)))
  have hP : va_P D vwCl (zWT cI cJ h (n, L) (kt, km, kl) (pt, pm, pl) (nu, le, ow, fo, run, wc, lc, tr, cl, tm, ms) (yl, yc, yt, co, pa, su, sc) mc ++ R) s.heap := hP
  have hD : va_D (zAb B) (zWT cI cJ h (n, L) (kt, km, kl) (pt, pm, pl) (nu, le, ow, fo, run, wc, lc, tr, cl, tm, ms) (yl, yc, yt, co, pa, su, sc) mc ++ R) := hD
  refine lv_iload_n hx hb dX4_key_0 rfl (lv_at hl 1 rfl) ?_
  refine zci (zrS (As := [.int (nI k)]) (rest := []) ⟨hx, hb, hml, hown, hts⟩ (zS hP hD hK hE hB hS) (c_X4_isKey  ) (va_cwS 1 hts gX4_key_X4_isKey rfl rfl rfl hds_X4_isKey ⟨Nat.le_of_ble_eq_true rfl, Nat.le_of_ble_eq_true rfl⟩) rfl rfl hl.1 rfl (lv_room (Nat.le_of_ble_eq_true rfl)) dX4_key_1 ⟨Nat.le_of_ble_eq_true rfl, Nat.le_of_ble_eq_true rfl⟩) hS (fun H locs hP hD hS => ?_)
  have hP : va_P D vwCl (zWT cI cJ h (n, L) (kt, km, kl) (pt, pm, pl) (nu, le, ow, fo, run, wc, lc, tr, cl, tm, ms) (yl, yc, yt, co, pa, su, sc) mc ++ R) _ := hP
  have hD : va_D (zAb B) (zWT cI cJ h (n, L) (kt, km, kl) (pt, pm, pl) (nu, le, ow, fo, run, wc, lc, tr, cl, tm, ms) (yl, yc, yt, co, pa, su, sc) mc ++ R) := hD
  refine lv_if_eq (tgt := 16) hx hb dX4_key_4 (by decide) (fun c_1 => ?_) (fun c_1 => ?_)
  · skip
    have c_1 := zq_0 c_1
    exact absurd ⟨nI_pos (by omega), nI_ge hk (by decide)⟩ c_1
  · skip
    have c_1 := zq_n c_1
    refine lv_iload_n hx hb dX4_key_7 rfl (lv_at hl 2 rfl) ?_
    refine lv_if_lt (tgt := 16) hx hb dX4_key_8 (by decide) (fun c_2 => ?_) (fun c_2 => ?_)
    · skip
      exfalso; first | omega | (revert c_2; decide) | (exact absurd rfl c_2) | simp_all
    · skip
      refine lv_iload_n hx hb dX4_key_11 rfl (lv_at hl 2 rfl) ?_
      refine lv_iconst (v := 2) hx hb dX4_key_12 (by decide) ?_
      refine lv_icmp_le (tgt := 26) hx hb dX4_key_13 (by decide) (fun c_3 => ?_) (fun c_3 => ?_)
      · skip
        refine lv_aload_n hx hb dX4_key_26 rfl (lv_at hl 0 rfl) ?_
        refine va_get (ci := 4) (v := .ref (h 3)) (C := RX4) (T := TX4) (N := 6) hx hb hts hinX4 hown hK hP 0 rfl rfl 1 (by decide) (hts (.fieldLink RX4 21 "TypingTutor" "keys" "LTypingTutor$Knowledge;") (List.mem_of_getElem? (i := 3) rfl)) (fun _ h9 => h9) rfl dX4_key_27 ?_
        refine lv_iload_n hx hb dX4_key_30 rfl (lv_at hl 1 rfl) ?_
        refine lv_iload_n hx hb dX4_key_31 rfl (lv_at hl 2 rfl) ?_
        refine zci (zrV (As := [.int (nI k), .int 2]) (rest := []) ⟨hx, hb, hml, hown, hts⟩ (zV 3 hP hD hK hE hB hS rfl rfl) (c_X1_tell_k2 (k := k) (by omega)) (cwV 2 hts gX4_key_X1_tell rfl rfl rfl hdv_X1_tell ⟨Nat.le_of_ble_eq_true rfl, Nat.le_of_ble_eq_true rfl⟩) rfl rfl hl.1 rfl (lv_room (Nat.le_of_ble_eq_true rfl)) dX4_key_32 ⟨Nat.le_of_ble_eq_true rfl, Nat.le_of_ble_eq_true rfl⟩) hS (fun H locs hP hD hS => ?_)
        have hP : va_P D vwCl (zWT cI cJ h (n, L) (kt, km, kl) (pt, pm, pl) (nu, le, ow, fo, run, wc, lc, tr, cl, tm, ms) (yl, yc, yt, co, pa, su, sc) mc ++ R) _ := hP
        have hD : va_D (zAb B) (zWT cI cJ h (n, L) (kt, km, kl) (pt, pm, pl) (nu, le, ow, fo, run, wc, lc, tr, cl, tm, ms) (yl, yc, yt, co, pa, su, sc) mc ++ R) := hD
        exact W.iret (v := (kl k)) hx hb hr (fun t ht hW => ⟨⟨_, (), rfl, rfl, by rw [ht]; exact hP, hD⟩, hS.F ht⟩) hS.2.2 dX4_key_35
      · skip
        exfalso; first | omega | (revert c_3; decide) | (exact absurd rfl c_3) | simp_all

set_option maxHeartbeats 4000000 in
set_option maxRecDepth 100000 in
theorem c_X4_key_x {l : Launch} {B kr kp : Nat} {D : va_G} {cI cJ cZ : ClassId} {h : Nat → Nat} {R : va_W} {n : Nat} {L : Nat → Int64} {kt : Nat → Int32} {km : Nat → Int32} {kl : Nat → Int32} {pt : Nat → Int32} {pm : Nat → Int32} {pl : Nat → Int32} {nu : Nat → Int32} {le : Nat → Int32} {ow : Nat → Int32} {fo : Nat → Int32} {run : Bool} {wc : Nat} {lc : Nat} {tr : Nat} {cl : Nat} {tm : Nat} {ms : Nat} {yl : Nat → Int32} {yc : Nat → Int32} {yt : Nat → Int32} {co : Nat} {pa : Int32} {su : Nat} {sc : Nat} {mc : Nat → Int32} {a : Int32} {i : Int32}   (hls : l.stackTraces = false) (h1 : ¬ ((¬ a < 0 ∧ ¬ 26 ≤ a) ∧ ¬ i < 0 ∧ i ≤ 2)) : vx_Met l yX4_key wsX4_key ({ frames := 6, cells := 1, slots := 6, locals := 82 }) (zPc B kr kp D (zTy cI cJ cZ) (zWT cI cJ h (n, L) (kt, km, kl) (pt, pm, pl) (nu, le, ow, fo, run, wc, lc, tr, cl, tm, ms) (yl, yc, yt, co, pa, su, sc) mc ++ R) [.ref (h 0), .int a, .int i]) (zQxi B D (zWT cI cJ h (n, L) (kt, km, kl) (pt, pm, pl) (nu, le, ow, fo, run, wc, lc, tr, cl, tm, ms) (yl, yc, yt, co, pa, su, sc) mc ++ R)) (zXC "java/lang/IndexOutOfBoundsException" B D (zWT cI cJ h (n, L) (kt, km, kl) (pt, pm, pl) (nu, le, ow, fo, run, wc, lc, tr, cl, tm, ms) (yl, yc, yt, co, pa, su, sc) mc ++ R)) 1 6 (zAb B) := by
  refine vx_ofW (cc := cX4_key) (maxL := 3) (ret := (some .int)) (by decide) rfl ?_
  intro p e s m args below meth c s₁ B0 hml ht9 hv
  obtain ⟨rfl, hP, hD, hK, hE, hB⟩ := hv
  have hx := B0.exec
  have hb := B0.bytes
  have hr := B0.returns
  have hts := atoms_spec (ws := wsX4_key) B0.pre
  have hown : s.vm.findClass RX4 = some m.cls := findClass_of_methodNamed B0.named
  have hlocks := B0.notSynchronized
  have hA : ∀ q : Nat, s.heap.size ≤ q → zAb B q := fun q hq => Nat.le_trans hB hq
  have hS : va_S (zAb B) s.heap s.heap [] := va_S.rf
  have hl := lv_entry ([.ref (h 0), .int a, .int i]) (n := 3) (Nat.le_of_ble_eq_true rfl)
  rw [lg_entry_eq]
  generalize (lg_sl ([.ref (h 0), .int a, .int i]) ++ List.replicate (3 - (lg_sl ([.ref (h 0), .int a, .int i])).length) Slot.unset).toArray = ls at hl ⊢
  have hl : lv_has ls 3 [(0, .ref (h 0)), (1, .int a), (2, .int i)] := hl
  have hP : va_P D vwCl (zWT cI cJ h (n, L) (kt, km, kl) (pt, pm, pl) (nu, le, ow, fo, run, wc, lc, tr, cl, tm, ms) (yl, yc, yt, co, pa, su, sc) mc ++ R) s.heap := hP
  have hD : va_D (zAb B) (zWT cI cJ h (n, L) (kt, km, kl) (pt, pm, pl) (nu, le, ow, fo, run, wc, lc, tr, cl, tm, ms) (yl, yc, yt, co, pa, su, sc) mc ++ R) := hD
  refine lv_iload_n hx hb dX4_key_0 rfl (lv_at hl 1 rfl) ?_
  refine zci (zrS (As := [.int a]) (rest := []) ⟨hx, hb, hml, hown, hts⟩ (zS hP hD hK hE hB hS) (c_X4_isKey  ) (va_cwS 1 hts gX4_key_X4_isKey rfl rfl rfl hds_X4_isKey ⟨Nat.le_of_ble_eq_true rfl, Nat.le_of_ble_eq_true rfl⟩) rfl rfl hl.1 rfl (lv_room (Nat.le_of_ble_eq_true rfl)) dX4_key_1 ⟨Nat.le_of_ble_eq_true rfl, Nat.le_of_ble_eq_true rfl⟩) hS (fun H locs hP hD hS => ?_)
  have hP : va_P D vwCl (zWT cI cJ h (n, L) (kt, km, kl) (pt, pm, pl) (nu, le, ow, fo, run, wc, lc, tr, cl, tm, ms) (yl, yc, yt, co, pa, su, sc) mc ++ R) _ := hP
  have hD : va_D (zAb B) (zWT cI cJ h (n, L) (kt, km, kl) (pt, pm, pl) (nu, le, ow, fo, run, wc, lc, tr, cl, tm, ms) (yl, yc, yt, co, pa, su, sc) mc ++ R) := hD
  refine lv_if_eq (tgt := 16) hx hb dX4_key_4 (by decide) (fun c_1 => ?_) (fun c_1 => ?_)
  · skip
    have c_1 := zq_0 c_1
    exact zthrow hx hb hls hown hE hP hD hS (hl.1.trans hml.symm) ht9 hlocks (by decide +kernel) (List.mem_of_getElem? (i := 10) rfl) (by decide +kernel) (hts (.classLink RX4 81 "java/lang/IndexOutOfBoundsException") (List.mem_of_getElem? (i := 1) rfl)) (hts (.initialized "java/lang/IndexOutOfBoundsException") (List.mem_of_getElem? (i := 2) rfl)) (fun w h9 => hts w (List.mem_cons_of_mem _ (List.mem_append_right _ h9))) (by decide +kernel) (by decide +kernel) dX4_key_16 dX4_key_19 dX4_key_20 dX4_key_22 dX4_key_25 ⟨Nat.le_of_ble_eq_true rfl, Nat.le_of_ble_eq_true rfl, Nat.le_of_ble_eq_true rfl, Nat.le_of_ble_eq_true rfl⟩
  · skip
    have c_1 := zq_n c_1
    refine lv_iload_n hx hb dX4_key_7 rfl (lv_at hl 2 rfl) ?_
    refine lv_if_lt (tgt := 16) hx hb dX4_key_8 (by decide) (fun c_2 => ?_) (fun c_2 => ?_)
    · skip
      exact zthrow hx hb hls hown hE hP hD hS (hl.1.trans hml.symm) ht9 hlocks (by decide +kernel) (List.mem_of_getElem? (i := 10) rfl) (by decide +kernel) (hts (.classLink RX4 81 "java/lang/IndexOutOfBoundsException") (List.mem_of_getElem? (i := 1) rfl)) (hts (.initialized "java/lang/IndexOutOfBoundsException") (List.mem_of_getElem? (i := 2) rfl)) (fun w h9 => hts w (List.mem_cons_of_mem _ (List.mem_append_right _ h9))) (by decide +kernel) (by decide +kernel) dX4_key_16 dX4_key_19 dX4_key_20 dX4_key_22 dX4_key_25 ⟨Nat.le_of_ble_eq_true rfl, Nat.le_of_ble_eq_true rfl, Nat.le_of_ble_eq_true rfl, Nat.le_of_ble_eq_true rfl⟩
    · skip
      refine lv_iload_n hx hb dX4_key_11 rfl (lv_at hl 2 rfl) ?_
      refine lv_iconst (v := 2) hx hb dX4_key_12 (by decide) ?_
      refine lv_icmp_le (tgt := 26) hx hb dX4_key_13 (by decide) (fun c_3 => ?_) (fun c_3 => ?_)
      · skip
        exact absurd ⟨c_1, c_2, c_3⟩ h1
      · skip
        exact zthrow hx hb hls hown hE hP hD hS (hl.1.trans hml.symm) ht9 hlocks (by decide +kernel) (List.mem_of_getElem? (i := 10) rfl) (by decide +kernel) (hts (.classLink RX4 81 "java/lang/IndexOutOfBoundsException") (List.mem_of_getElem? (i := 1) rfl)) (hts (.initialized "java/lang/IndexOutOfBoundsException") (List.mem_of_getElem? (i := 2) rfl)) (fun w h9 => hts w (List.mem_cons_of_mem _ (List.mem_append_right _ h9))) (by decide +kernel) (by decide +kernel) dX4_key_16 dX4_key_19 dX4_key_20 dX4_key_22 dX4_key_25 ⟨Nat.le_of_ble_eq_true rfl, Nat.le_of_ble_eq_true rfl, Nat.le_of_ble_eq_true rfl, Nat.le_of_ble_eq_true rfl⟩

set_option maxHeartbeats 4000000 in
set_option maxRecDepth 100000 in
theorem c_X4_pair_0 {l : Launch} {B kr kp : Nat} {D : va_G} {cI cJ cZ : ClassId} {h : Nat → Nat} {R : va_W} {n : Nat} {L : Nat → Int64} {kt : Nat → Int32} {km : Nat → Int32} {kl : Nat → Int32} {pt : Nat → Int32} {pm : Nat → Int32} {pl : Nat → Int32} {nu : Nat → Int32} {le : Nat → Int32} {ow : Nat → Int32} {fo : Nat → Int32} {run : Bool} {wc : Nat} {lc : Nat} {tr : Nat} {cl : Nat} {tm : Nat} {ms : Nat} {yl : Nat → Int32} {yc : Nat → Int32} {yt : Nat → Int32} {co : Nat} {pa : Int32} {su : Nat} {sc : Nat} {mc : Nat → Int32} {a : Nat} {b : Nat}   (h1 : a < 26) (h2 : b < 26) : Met l yX4_pair wsX4_pair ({ frames := 2, cells := 0, slots := 0, locals := 43 }) (zPc B kr kp D (zTy cI cJ cZ) (zWT cI cJ h (n, L) (kt, km, kl) (pt, pm, pl) (nu, le, ow, fo, run, wc, lc, tr, cl, tm, ms) (yl, yc, yt, co, pa, su, sc) mc ++ R) [.ref (h 0), .int (nI a), .int (nI b), .int 0]) (zQi B D (zWT cI cJ h (n, L) (kt, km, kl) (pt, pm, pl) (nu, le, ow, fo, run, wc, lc, tr, cl, tm, ms) (yl, yc, yt, co, pa, su, sc) mc ++ R) (pt (26 * a + b))) 0 0 (zAb B) := by
  refine Met.ofW (cc := cX4_pair) (maxL := 5) (ret := (some .int)) (by decide) rfl ?_
  intro p e s m args below meth c s₁ B0 hml hv
  obtain ⟨rfl, hP, hD, hK, hE, hB⟩ := hv
  have hx := B0.exec
  have hb := B0.bytes
  have hr := B0.returns
  have hts := atoms_spec (ws := wsX4_pair) B0.pre
  have hown : s.vm.findClass RX4 = some m.cls := findClass_of_methodNamed B0.named
  have hlocks := B0.notSynchronized
  have hA : ∀ q : Nat, s.heap.size ≤ q → zAb B q := fun q hq => Nat.le_trans hB hq
  have hS : va_S (zAb B) s.heap s.heap [] := va_S.rf
  have hl := lv_entry ([.ref (h 0), .int (nI a), .int (nI b), .int 0]) (n := 5) (Nat.le_of_ble_eq_true rfl)
  rw [lg_entry_eq]
  generalize (lg_sl ([.ref (h 0), .int (nI a), .int (nI b), .int 0]) ++ List.replicate (5 - (lg_sl ([.ref (h 0), .int (nI a), .int (nI b), .int 0])).length) Slot.unset).toArray = ls at hl ⊢
  have hl : lv_has ls 5 [(0, .ref (h 0)), (1, .int (nI a)), (2, .int (nI b)), (3, .int 0)] := hl
  have hinX4 : ∀ w ∈ wsX40, w ∈ wsX4_pair := fun _ h => List.mem_cons_of_mem _ (List.mem_append_left _ (List.mem_append_left _ (List.mem_append_right _ h)))
  have hP : va_P D vwCl (zWT cI cJ h (n, L) (kt, km, kl) (pt, pm, pl) (nu, le, ow, fo, run, wc, lc, tr, cl, tm, ms) (yl, yc, yt, co, pa, su, sc) mc ++ R) s.heap := hP
  have hD : va_D (zAb B) (zWT cI cJ h (n, L) (kt, km, kl) (pt, pm, pl) (nu, le, ow, fo, run, wc, lc, tr, cl, tm, ms) (yl, yc, yt, co, pa, su, sc) mc ++ R) := hD
  refine lv_iload_n hx hb dX4_pair_0 rfl (lv_at hl 1 rfl) ?_
  refine zci (zrS (As := [.int (nI a)]) (rest := []) ⟨hx, hb, hml, hown, hts⟩ (zS hP hD hK hE hB hS) (c_X4_isKey  ) (va_cwS 1 hts gX4_pair_X4_isKey rfl rfl rfl hds_X4_isKey ⟨Nat.le_of_ble_eq_true rfl, Nat.le_of_ble_eq_true rfl⟩) rfl rfl hl.1 rfl (lv_room (Nat.le_of_ble_eq_true rfl)) dX4_pair_1 ⟨Nat.le_of_ble_eq_true rfl, Nat.le_of_ble_eq_true rfl⟩) hS (fun H locs hP hD hS => ?_)
  have hP : va_P D vwCl (zWT cI cJ h (n, L) (kt, km, kl) (pt, pm, pl) (nu, le, ow, fo, run, wc, lc, tr, cl, tm, ms) (yl, yc, yt, co, pa, su, sc) mc ++ R) _ := hP
  have hD : va_D (zAb B) (zWT cI cJ h (n, L) (kt, km, kl) (pt, pm, pl) (nu, le, ow, fo, run, wc, lc, tr, cl, tm, ms) (yl, yc, yt, co, pa, su, sc) mc ++ R) := hD
  refine lv_if_eq (tgt := 23) hx hb dX4_pair_4 (by decide) (fun c_1 => ?_) (fun c_1 => ?_)
  · skip
    have c_1 := zq_0 c_1
    exact absurd ⟨nI_pos (by omega), nI_ge h1 (by decide)⟩ c_1
  · skip
    have c_1 := zq_n c_1
    refine lv_iload_n hx hb dX4_pair_7 rfl (lv_at hl 2 rfl) ?_
    refine zci (zrS (As := [.int (nI b)]) (rest := []) ⟨hx, hb, hml, hown, hts⟩ (zS hP hD hK hE hB hS) (c_X4_isKey  ) (va_cwS 1 hts gX4_pair_X4_isKey rfl rfl rfl hds_X4_isKey ⟨Nat.le_of_ble_eq_true rfl, Nat.le_of_ble_eq_true rfl⟩) rfl rfl hl.1 rfl (lv_room (Nat.le_of_ble_eq_true rfl)) dX4_pair_8 ⟨Nat.le_of_ble_eq_true rfl, Nat.le_of_ble_eq_true rfl⟩) hS (fun H locs hP hD hS => ?_)
    have hP : va_P D vwCl (zWT cI cJ h (n, L) (kt, km, kl) (pt, pm, pl) (nu, le, ow, fo, run, wc, lc, tr, cl, tm, ms) (yl, yc, yt, co, pa, su, sc) mc ++ R) _ := hP
    have hD : va_D (zAb B) (zWT cI cJ h (n, L) (kt, km, kl) (pt, pm, pl) (nu, le, ow, fo, run, wc, lc, tr, cl, tm, ms) (yl, yc, yt, co, pa, su, sc) mc ++ R) := hD
    refine lv_if_eq (tgt := 23) hx hb dX4_pair_11 (by decide) (fun c_2 => ?_) (fun c_2 => ?_)
    · skip
      have c_2 := zq_0 c_2
      exact absurd ⟨nI_pos (by omega), nI_ge h2 (by decide)⟩ c_2
    · skip
      have c_2 := zq_n c_2
      refine lv_iload_n hx hb dX4_pair_14 rfl (lv_at hl 3 rfl) ?_
      refine lv_if_lt (tgt := 23) hx hb dX4_pair_15 (by decide) (fun c_3 => ?_) (fun c_3 => ?_)
      · skip
        exfalso; first | omega | (revert c_3; decide) | (exact absurd rfl c_3) | simp_all
      · skip
        refine lv_iload_n hx hb dX4_pair_18 rfl (lv_at hl 3 rfl) ?_
        refine lv_iconst (v := 3) hx hb dX4_pair_19 (by decide) ?_
        refine lv_icmp_le (tgt := 33) hx hb dX4_pair_20 (by decide) (fun c_4 => ?_) (fun c_4 => ?_)
        · skip
          refine lv_iload_n hx hb dX4_pair_33 rfl (lv_at hl 1 rfl) ?_
          refine lv_iload_n hx hb dX4_pair_34 rfl (lv_at hl 2 rfl) ?_
          refine zci (zrS (As := [.int (nI a), .int (nI b)]) (rest := []) ⟨hx, hb, hml, hown, hts⟩ (zS hP hD hK hE hB hS) (c_X4_pairOf  ) (va_cwS 2 hts gX4_pair_X4_pairOf rfl rfl rfl hds_X4_pairOf ⟨Nat.le_of_ble_eq_true rfl, Nat.le_of_ble_eq_true rfl⟩) rfl rfl hl.1 rfl (lv_room (Nat.le_of_ble_eq_true rfl)) dX4_pair_35 ⟨Nat.le_of_ble_eq_true rfl, Nat.le_of_ble_eq_true rfl⟩) hS (fun H locs hP hD hS => ?_)
          have hP : va_P D vwCl (zWT cI cJ h (n, L) (kt, km, kl) (pt, pm, pl) (nu, le, ow, fo, run, wc, lc, tr, cl, tm, ms) (yl, yc, yt, co, pa, su, sc) mc ++ R) _ := hP
          have hD : va_D (zAb B) (zWT cI cJ h (n, L) (kt, km, kl) (pt, pm, pl) (nu, le, ow, fo, run, wc, lc, tr, cl, tm, ms) (yl, yc, yt, co, pa, su, sc) mc ++ R) := hD
          rw [show (26 * (nI a) + (nI b)) = (nI (26 * a + b)) from (by rw [show (26 : Int32) = nI 26 from rfl, pk_mul, nI_add])]
          refine lv_istore (lv' := [(4, .int (nI (26 * a + b))), (0, .ref (h 0)), (1, .int (nI a)), (2, .int (nI b)), (3, .int 0)]) hx hb dX4_pair_38 hl (by decide) rfl (fun ls hl => ?_)
          refine lv_iload_n hx hb dX4_pair_40 rfl (lv_at hl 4 rfl) ?_
          refine lv_iconst (v := 3) hx hb dX4_pair_41 (by decide) ?_
          refine lv_icmp_ne (tgt := 54) hx hb dX4_pair_42 (by decide) (fun c_5 => ?_) (fun c_5 => ?_)
          · skip
            refine lv_aload_n hx hb dX4_pair_54 rfl (lv_at hl 1 rfl) ?_
            refine va_get (ci := 4) (v := .ref (h 7)) (C := RX4) (T := TX4) (N := 6) hx hb hts hinX4 hown hK hP 0 rfl rfl 2 (by decide) (hts (.fieldLink RX4 25 "TypingTutor" "pairs" "LTypingTutor$Knowledge;") (List.mem_of_getElem? (i := 3) rfl)) (fun _ h9 => h9) rfl dX4_pair_55 ?_
            refine lv_iload hx hb dX4_pair_58 (lv_at hl 0 rfl) ?_
            refine lv_iload_n hx hb dX4_pair_60 rfl (lv_at hl 4 rfl) ?_
            refine zci (zrV (As := [.int (nI (26 * a + b)), .int 0]) (rest := []) ⟨hx, hb, hml, hown, hts⟩ (zV 7 hP hD hK hE hB hS rfl rfl) (c_X1_tell_p0 (k := (26 * a + b)) (by omega)) (cwV 2 hts gX4_pair_X1_tell rfl rfl rfl hdv_X1_tell ⟨Nat.le_of_ble_eq_true rfl, Nat.le_of_ble_eq_true rfl⟩) rfl rfl hl.1 rfl (lv_room (Nat.le_of_ble_eq_true rfl)) dX4_pair_61 ⟨Nat.le_of_ble_eq_true rfl, Nat.le_of_ble_eq_true rfl⟩) hS (fun H locs hP hD hS => ?_)
            have hP : va_P D vwCl (zWT cI cJ h (n, L) (kt, km, kl) (pt, pm, pl) (nu, le, ow, fo, run, wc, lc, tr, cl, tm, ms) (yl, yc, yt, co, pa, su, sc) mc ++ R) _ := hP
            have hD : va_D (zAb B) (zWT cI cJ h (n, L) (kt, km, kl) (pt, pm, pl) (nu, le, ow, fo, run, wc, lc, tr, cl, tm, ms) (yl, yc, yt, co, pa, su, sc) mc ++ R) := hD
            exact W.iret (v := (pt (26 * a + b))) hx hb hr (fun t ht hW => ⟨⟨_, (), rfl, rfl, by rw [ht]; exact hP, hD⟩, hS.F ht⟩) hS.2.2 dX4_pair_64
          · skip
            exfalso; first | omega | (revert c_5; decide) | (exact absurd rfl c_5) | simp_all
        · skip
          exfalso; first | omega | (revert c_4; decide) | (exact absurd rfl c_4) | simp_all

set_option maxHeartbeats 4000000 in
set_option maxRecDepth 100000 in
theorem c_X4_pair_1 {l : Launch} {B kr kp : Nat} {D : va_G} {cI cJ cZ : ClassId} {h : Nat → Nat} {R : va_W} {n : Nat} {L : Nat → Int64} {kt : Nat → Int32} {km : Nat → Int32} {kl : Nat → Int32} {pt : Nat → Int32} {pm : Nat → Int32} {pl : Nat → Int32} {nu : Nat → Int32} {le : Nat → Int32} {ow : Nat → Int32} {fo : Nat → Int32} {run : Bool} {wc : Nat} {lc : Nat} {tr : Nat} {cl : Nat} {tm : Nat} {ms : Nat} {yl : Nat → Int32} {yc : Nat → Int32} {yt : Nat → Int32} {co : Nat} {pa : Int32} {su : Nat} {sc : Nat} {mc : Nat → Int32} {a : Nat} {b : Nat}   (h1 : a < 26) (h2 : b < 26) : Met l yX4_pair wsX4_pair ({ frames := 2, cells := 0, slots := 0, locals := 43 }) (zPc B kr kp D (zTy cI cJ cZ) (zWT cI cJ h (n, L) (kt, km, kl) (pt, pm, pl) (nu, le, ow, fo, run, wc, lc, tr, cl, tm, ms) (yl, yc, yt, co, pa, su, sc) mc ++ R) [.ref (h 0), .int (nI a), .int (nI b), .int 1]) (zQi B D (zWT cI cJ h (n, L) (kt, km, kl) (pt, pm, pl) (nu, le, ow, fo, run, wc, lc, tr, cl, tm, ms) (yl, yc, yt, co, pa, su, sc) mc ++ R) (pm (26 * a + b))) 0 0 (zAb B) := by
  refine Met.ofW (cc := cX4_pair) (maxL := 5) (ret := (some .int)) (by decide) rfl ?_
  intro p e s m args below meth c s₁ B0 hml hv
  obtain ⟨rfl, hP, hD, hK, hE, hB⟩ := hv
  have hx := B0.exec
  have hb := B0.bytes
  have hr := B0.returns
  have hts := atoms_spec (ws := wsX4_pair) B0.pre
  have hown : s.vm.findClass RX4 = some m.cls := findClass_of_methodNamed B0.named
  have hlocks := B0.notSynchronized
  have hA : ∀ q : Nat, s.heap.size ≤ q → zAb B q := fun q hq => Nat.le_trans hB hq
  have hS : va_S (zAb B) s.heap s.heap [] := va_S.rf
  have hl := lv_entry ([.ref (h 0), .int (nI a), .int (nI b), .int 1]) (n := 5) (Nat.le_of_ble_eq_true rfl)
  rw [lg_entry_eq]
  generalize (lg_sl ([.ref (h 0), .int (nI a), .int (nI b), .int 1]) ++ List.replicate (5 - (lg_sl ([.ref (h 0), .int (nI a), .int (nI b), .int 1])).length) Slot.unset).toArray = ls at hl ⊢
  have hl : lv_has ls 5 [(0, .ref (h 0)), (1, .int (nI a)), (2, .int (nI b)), (3, .int 1)] := hl
  have hinX4 : ∀ w ∈ wsX40, w ∈ wsX4_pair := fun _ h => List.mem_cons_of_mem _ (List.mem_append_left _ (List.mem_append_left _ (List.mem_append_right _ h)))
  have hP : va_P D vwCl (zWT cI cJ h (n, L) (kt, km, kl) (pt, pm, pl) (nu, le, ow, fo, run, wc, lc, tr, cl, tm, ms) (yl, yc, yt, co, pa, su, sc) mc ++ R) s.heap := hP
  have hD : va_D (zAb B) (zWT cI cJ h (n, L) (kt, km, kl) (pt, pm, pl) (nu, le, ow, fo, run, wc, lc, tr, cl, tm, ms) (yl, yc, yt, co, pa, su, sc) mc ++ R) := hD
  refine lv_iload_n hx hb dX4_pair_0 rfl (lv_at hl 1 rfl) ?_
  refine zci (zrS (As := [.int (nI a)]) (rest := []) ⟨hx, hb, hml, hown, hts⟩ (zS hP hD hK hE hB hS) (c_X4_isKey  ) (va_cwS 1 hts gX4_pair_X4_isKey rfl rfl rfl hds_X4_isKey ⟨Nat.le_of_ble_eq_true rfl, Nat.le_of_ble_eq_true rfl⟩) rfl rfl hl.1 rfl (lv_room (Nat.le_of_ble_eq_true rfl)) dX4_pair_1 ⟨Nat.le_of_ble_eq_true rfl, Nat.le_of_ble_eq_true rfl⟩) hS (fun H locs hP hD hS => ?_)
  have hP : va_P D vwCl (zWT cI cJ h (n, L) (kt, km, kl) (pt, pm, pl) (nu, le, ow, fo, run, wc, lc, tr, cl, tm, ms) (yl, yc, yt, co, pa, su, sc) mc ++ R) _ := hP
  have hD : va_D (zAb B) (zWT cI cJ h (n, L) (kt, km, kl) (pt, pm, pl) (nu, le, ow, fo, run, wc, lc, tr, cl, tm, ms) (yl, yc, yt, co, pa, su, sc) mc ++ R) := hD
  refine lv_if_eq (tgt := 23) hx hb dX4_pair_4 (by decide) (fun c_1 => ?_) (fun c_1 => ?_)
  · skip
    have c_1 := zq_0 c_1
    exact absurd ⟨nI_pos (by omega), nI_ge h1 (by decide)⟩ c_1
  · skip
    have c_1 := zq_n c_1
    refine lv_iload_n hx hb dX4_pair_7 rfl (lv_at hl 2 rfl) ?_
    refine zci (zrS (As := [.int (nI b)]) (rest := []) ⟨hx, hb, hml, hown, hts⟩ (zS hP hD hK hE hB hS) (c_X4_isKey  ) (va_cwS 1 hts gX4_pair_X4_isKey rfl rfl rfl hds_X4_isKey ⟨Nat.le_of_ble_eq_true rfl, Nat.le_of_ble_eq_true rfl⟩) rfl rfl hl.1 rfl (lv_room (Nat.le_of_ble_eq_true rfl)) dX4_pair_8 ⟨Nat.le_of_ble_eq_true rfl, Nat.le_of_ble_eq_true rfl⟩) hS (fun H locs hP hD hS => ?_)
    have hP : va_P D vwCl (zWT cI cJ h (n, L) (kt, km, kl) (pt, pm, pl) (nu, le, ow, fo, run, wc, lc, tr, cl, tm, ms) (yl, yc, yt, co, pa, su, sc) mc ++ R) _ := hP
    have hD : va_D (zAb B) (zWT cI cJ h (n, L) (kt, km, kl) (pt, pm, pl) (nu, le, ow, fo, run, wc, lc, tr, cl, tm, ms) (yl, yc, yt, co, pa, su, sc) mc ++ R) := hD
    refine lv_if_eq (tgt := 23) hx hb dX4_pair_11 (by decide) (fun c_2 => ?_) (fun c_2 => ?_)
    · skip
      have c_2 := zq_0 c_2
      exact absurd ⟨nI_pos (by omega), nI_ge h2 (by decide)⟩ c_2
    · skip
      have c_2 := zq_n c_2
      refine lv_iload_n hx hb dX4_pair_14 rfl (lv_at hl 3 rfl) ?_
      refine lv_if_lt (tgt := 23) hx hb dX4_pair_15 (by decide) (fun c_3 => ?_) (fun c_3 => ?_)
      · skip
        exfalso; first | omega | (revert c_3; decide) | (exact absurd rfl c_3) | simp_all
      · skip
        refine lv_iload_n hx hb dX4_pair_18 rfl (lv_at hl 3 rfl) ?_
        refine lv_iconst (v := 3) hx hb dX4_pair_19 (by decide) ?_
        refine lv_icmp_le (tgt := 33) hx hb dX4_pair_20 (by decide) (fun c_4 => ?_) (fun c_4 => ?_)
        · skip
          refine lv_iload_n hx hb dX4_pair_33 rfl (lv_at hl 1 rfl) ?_
          refine lv_iload_n hx hb dX4_pair_34 rfl (lv_at hl 2 rfl) ?_
          refine zci (zrS (As := [.int (nI a), .int (nI b)]) (rest := []) ⟨hx, hb, hml, hown, hts⟩ (zS hP hD hK hE hB hS) (c_X4_pairOf  ) (va_cwS 2 hts gX4_pair_X4_pairOf rfl rfl rfl hds_X4_pairOf ⟨Nat.le_of_ble_eq_true rfl, Nat.le_of_ble_eq_true rfl⟩) rfl rfl hl.1 rfl (lv_room (Nat.le_of_ble_eq_true rfl)) dX4_pair_35 ⟨Nat.le_of_ble_eq_true rfl, Nat.le_of_ble_eq_true rfl⟩) hS (fun H locs hP hD hS => ?_)
          have hP : va_P D vwCl (zWT cI cJ h (n, L) (kt, km, kl) (pt, pm, pl) (nu, le, ow, fo, run, wc, lc, tr, cl, tm, ms) (yl, yc, yt, co, pa, su, sc) mc ++ R) _ := hP
          have hD : va_D (zAb B) (zWT cI cJ h (n, L) (kt, km, kl) (pt, pm, pl) (nu, le, ow, fo, run, wc, lc, tr, cl, tm, ms) (yl, yc, yt, co, pa, su, sc) mc ++ R) := hD
          rw [show (26 * (nI a) + (nI b)) = (nI (26 * a + b)) from (by rw [show (26 : Int32) = nI 26 from rfl, pk_mul, nI_add])]
          refine lv_istore (lv' := [(4, .int (nI (26 * a + b))), (0, .ref (h 0)), (1, .int (nI a)), (2, .int (nI b)), (3, .int 1)]) hx hb dX4_pair_38 hl (by decide) rfl (fun ls hl => ?_)
          refine lv_iload_n hx hb dX4_pair_40 rfl (lv_at hl 4 rfl) ?_
          refine lv_iconst (v := 3) hx hb dX4_pair_41 (by decide) ?_
          refine lv_icmp_ne (tgt := 54) hx hb dX4_pair_42 (by decide) (fun c_5 => ?_) (fun c_5 => ?_)
          · skip
            refine lv_aload_n hx hb dX4_pair_54 rfl (lv_at hl 1 rfl) ?_
            refine va_get (ci := 4) (v := .ref (h 7)) (C := RX4) (T := TX4) (N := 6) hx hb hts hinX4 hown hK hP 0 rfl rfl 2 (by decide) (hts (.fieldLink RX4 25 "TypingTutor" "pairs" "LTypingTutor$Knowledge;") (List.mem_of_getElem? (i := 3) rfl)) (fun _ h9 => h9) rfl dX4_pair_55 ?_
            refine lv_iload hx hb dX4_pair_58 (lv_at hl 0 rfl) ?_
            refine lv_iload_n hx hb dX4_pair_60 rfl (lv_at hl 4 rfl) ?_
            refine zci (zrV (As := [.int (nI (26 * a + b)), .int 1]) (rest := []) ⟨hx, hb, hml, hown, hts⟩ (zV 7 hP hD hK hE hB hS rfl rfl) (c_X1_tell_p1 (k := (26 * a + b)) (by omega)) (cwV 2 hts gX4_pair_X1_tell rfl rfl rfl hdv_X1_tell ⟨Nat.le_of_ble_eq_true rfl, Nat.le_of_ble_eq_true rfl⟩) rfl rfl hl.1 rfl (lv_room (Nat.le_of_ble_eq_true rfl)) dX4_pair_61 ⟨Nat.le_of_ble_eq_true rfl, Nat.le_of_ble_eq_true rfl⟩) hS (fun H locs hP hD hS => ?_)
            have hP : va_P D vwCl (zWT cI cJ h (n, L) (kt, km, kl) (pt, pm, pl) (nu, le, ow, fo, run, wc, lc, tr, cl, tm, ms) (yl, yc, yt, co, pa, su, sc) mc ++ R) _ := hP
            have hD : va_D (zAb B) (zWT cI cJ h (n, L) (kt, km, kl) (pt, pm, pl) (nu, le, ow, fo, run, wc, lc, tr, cl, tm, ms) (yl, yc, yt, co, pa, su, sc) mc ++ R) := hD
            exact W.iret (v := (pm (26 * a + b))) hx hb hr (fun t ht hW => ⟨⟨_, (), rfl, rfl, by rw [ht]; exact hP, hD⟩, hS.F ht⟩) hS.2.2 dX4_pair_64
          · skip
            exfalso; first | omega | (revert c_5; decide) | (exact absurd rfl c_5) | simp_all
        · skip
          exfalso; first | omega | (revert c_4; decide) | (exact absurd rfl c_4) | simp_all

set_option maxHeartbeats 4000000 in
set_option maxRecDepth 100000 in
theorem c_X4_pair_2 {l : Launch} {B kr kp : Nat} {D : va_G} {cI cJ cZ : ClassId} {h : Nat → Nat} {R : va_W} {n : Nat} {L : Nat → Int64} {kt : Nat → Int32} {km : Nat → Int32} {kl : Nat → Int32} {pt : Nat → Int32} {pm : Nat → Int32} {pl : Nat → Int32} {nu : Nat → Int32} {le : Nat → Int32} {ow : Nat → Int32} {fo : Nat → Int32} {run : Bool} {wc : Nat} {lc : Nat} {tr : Nat} {cl : Nat} {tm : Nat} {ms : Nat} {yl : Nat → Int32} {yc : Nat → Int32} {yt : Nat → Int32} {co : Nat} {pa : Int32} {su : Nat} {sc : Nat} {mc : Nat → Int32} {a : Nat} {b : Nat}   (h1 : a < 26) (h2 : b < 26) : Met l yX4_pair wsX4_pair ({ frames := 2, cells := 0, slots := 0, locals := 43 }) (zPc B kr kp D (zTy cI cJ cZ) (zWT cI cJ h (n, L) (kt, km, kl) (pt, pm, pl) (nu, le, ow, fo, run, wc, lc, tr, cl, tm, ms) (yl, yc, yt, co, pa, su, sc) mc ++ R) [.ref (h 0), .int (nI a), .int (nI b), .int 2]) (zQi B D (zWT cI cJ h (n, L) (kt, km, kl) (pt, pm, pl) (nu, le, ow, fo, run, wc, lc, tr, cl, tm, ms) (yl, yc, yt, co, pa, su, sc) mc ++ R) (pl (26 * a + b))) 0 0 (zAb B) := by
  refine Met.ofW (cc := cX4_pair) (maxL := 5) (ret := (some .int)) (by decide) rfl ?_
  intro p e s m args below meth c s₁ B0 hml hv
  obtain ⟨rfl, hP, hD, hK, hE, hB⟩ := hv
  have hx := B0.exec
  have hb := B0.bytes
  have hr := B0.returns
  have hts := atoms_spec (ws := wsX4_pair) B0.pre
  have hown : s.vm.findClass RX4 = some m.cls := findClass_of_methodNamed B0.named
  have hlocks := B0.notSynchronized
  have hA : ∀ q : Nat, s.heap.size ≤ q → zAb B q := fun q hq => Nat.le_trans hB hq
  have hS : va_S (zAb B) s.heap s.heap [] := va_S.rf
  have hl := lv_entry ([.ref (h 0), .int (nI a), .int (nI b), .int 2]) (n := 5) (Nat.le_of_ble_eq_true rfl)
  rw [lg_entry_eq]
  generalize (lg_sl ([.ref (h 0), .int (nI a), .int (nI b), .int 2]) ++ List.replicate (5 - (lg_sl ([.ref (h 0), .int (nI a), .int (nI b), .int 2])).length) Slot.unset).toArray = ls at hl ⊢
  have hl : lv_has ls 5 [(0, .ref (h 0)), (1, .int (nI a)), (2, .int (nI b)), (3, .int 2)] := hl
  have hinX4 : ∀ w ∈ wsX40, w ∈ wsX4_pair := fun _ h => List.mem_cons_of_mem _ (List.mem_append_left _ (List.mem_append_left _ (List.mem_append_right _ h)))
  have hP : va_P D vwCl (zWT cI cJ h (n, L) (kt, km, kl) (pt, pm, pl) (nu, le, ow, fo, run, wc, lc, tr, cl, tm, ms) (yl, yc, yt, co, pa, su, sc) mc ++ R) s.heap := hP
  have hD : va_D (zAb B) (zWT cI cJ h (n, L) (kt, km, kl) (pt, pm, pl) (nu, le, ow, fo, run, wc, lc, tr, cl, tm, ms) (yl, yc, yt, co, pa, su, sc) mc ++ R) := hD
  refine lv_iload_n hx hb dX4_pair_0 rfl (lv_at hl 1 rfl) ?_
  refine zci (zrS (As := [.int (nI a)]) (rest := []) ⟨hx, hb, hml, hown, hts⟩ (zS hP hD hK hE hB hS) (c_X4_isKey  ) (va_cwS 1 hts gX4_pair_X4_isKey rfl rfl rfl hds_X4_isKey ⟨Nat.le_of_ble_eq_true rfl, Nat.le_of_ble_eq_true rfl⟩) rfl rfl hl.1 rfl (lv_room (Nat.le_of_ble_eq_true rfl)) dX4_pair_1 ⟨Nat.le_of_ble_eq_true rfl, Nat.le_of_ble_eq_true rfl⟩) hS (fun H locs hP hD hS => ?_)
  have hP : va_P D vwCl (zWT cI cJ h (n, L) (kt, km, kl) (pt, pm, pl) (nu, le, ow, fo, run, wc, lc, tr, cl, tm, ms) (yl, yc, yt, co, pa, su, sc) mc ++ R) _ := hP
  have hD : va_D (zAb B) (zWT cI cJ h (n, L) (kt, km, kl) (pt, pm, pl) (nu, le, ow, fo, run, wc, lc, tr, cl, tm, ms) (yl, yc, yt, co, pa, su, sc) mc ++ R) := hD
  refine lv_if_eq (tgt := 23) hx hb dX4_pair_4 (by decide) (fun c_1 => ?_) (fun c_1 => ?_)
  · skip
    have c_1 := zq_0 c_1
    exact absurd ⟨nI_pos (by omega), nI_ge h1 (by decide)⟩ c_1
  · skip
    have c_1 := zq_n c_1
    refine lv_iload_n hx hb dX4_pair_7 rfl (lv_at hl 2 rfl) ?_
    refine zci (zrS (As := [.int (nI b)]) (rest := []) ⟨hx, hb, hml, hown, hts⟩ (zS hP hD hK hE hB hS) (c_X4_isKey  ) (va_cwS 1 hts gX4_pair_X4_isKey rfl rfl rfl hds_X4_isKey ⟨Nat.le_of_ble_eq_true rfl, Nat.le_of_ble_eq_true rfl⟩) rfl rfl hl.1 rfl (lv_room (Nat.le_of_ble_eq_true rfl)) dX4_pair_8 ⟨Nat.le_of_ble_eq_true rfl, Nat.le_of_ble_eq_true rfl⟩) hS (fun H locs hP hD hS => ?_)
    have hP : va_P D vwCl (zWT cI cJ h (n, L) (kt, km, kl) (pt, pm, pl) (nu, le, ow, fo, run, wc, lc, tr, cl, tm, ms) (yl, yc, yt, co, pa, su, sc) mc ++ R) _ := hP
    have hD : va_D (zAb B) (zWT cI cJ h (n, L) (kt, km, kl) (pt, pm, pl) (nu, le, ow, fo, run, wc, lc, tr, cl, tm, ms) (yl, yc, yt, co, pa, su, sc) mc ++ R) := hD
    refine lv_if_eq (tgt := 23) hx hb dX4_pair_11 (by decide) (fun c_2 => ?_) (fun c_2 => ?_)
    · skip
      have c_2 := zq_0 c_2
      exact absurd ⟨nI_pos (by omega), nI_ge h2 (by decide)⟩ c_2
    · skip
      have c_2 := zq_n c_2
      refine lv_iload_n hx hb dX4_pair_14 rfl (lv_at hl 3 rfl) ?_
      refine lv_if_lt (tgt := 23) hx hb dX4_pair_15 (by decide) (fun c_3 => ?_) (fun c_3 => ?_)
      · skip
        exfalso; first | omega | (revert c_3; decide) | (exact absurd rfl c_3) | simp_all
      · skip
        refine lv_iload_n hx hb dX4_pair_18 rfl (lv_at hl 3 rfl) ?_
        refine lv_iconst (v := 3) hx hb dX4_pair_19 (by decide) ?_
        refine lv_icmp_le (tgt := 33) hx hb dX4_pair_20 (by decide) (fun c_4 => ?_) (fun c_4 => ?_)
        · skip
          refine lv_iload_n hx hb dX4_pair_33 rfl (lv_at hl 1 rfl) ?_
          refine lv_iload_n hx hb dX4_pair_34 rfl (lv_at hl 2 rfl) ?_
          refine zci (zrS (As := [.int (nI a), .int (nI b)]) (rest := []) ⟨hx, hb, hml, hown, hts⟩ (zS hP hD hK hE hB hS) (c_X4_pairOf  ) (va_cwS 2 hts gX4_pair_X4_pairOf rfl rfl rfl hds_X4_pairOf ⟨Nat.le_of_ble_eq_true rfl, Nat.le_of_ble_eq_true rfl⟩) rfl rfl hl.1 rfl (lv_room (Nat.le_of_ble_eq_true rfl)) dX4_pair_35 ⟨Nat.le_of_ble_eq_true rfl, Nat.le_of_ble_eq_true rfl⟩) hS (fun H locs hP hD hS => ?_)
          have hP : va_P D vwCl (zWT cI cJ h (n, L) (kt, km, kl) (pt, pm, pl) (nu, le, ow, fo, run, wc, lc, tr, cl, tm, ms) (yl, yc, yt, co, pa, su, sc) mc ++ R) _ := hP
          have hD : va_D (zAb B) (zWT cI cJ h (n, L) (kt, km, kl) (pt, pm, pl) (nu, le, ow, fo, run, wc, lc, tr, cl, tm, ms) (yl, yc, yt, co, pa, su, sc) mc ++ R) := hD
          rw [show (26 * (nI a) + (nI b)) = (nI (26 * a + b)) from (by rw [show (26 : Int32) = nI 26 from rfl, pk_mul, nI_add])]
          refine lv_istore (lv' := [(4, .int (nI (26 * a + b))), (0, .ref (h 0)), (1, .int (nI a)), (2, .int (nI b)), (3, .int 2)]) hx hb dX4_pair_38 hl (by decide) rfl (fun ls hl => ?_)
          refine lv_iload_n hx hb dX4_pair_40 rfl (lv_at hl 4 rfl) ?_
          refine lv_iconst (v := 3) hx hb dX4_pair_41 (by decide) ?_
          refine lv_icmp_ne (tgt := 54) hx hb dX4_pair_42 (by decide) (fun c_5 => ?_) (fun c_5 => ?_)
          · skip
            refine lv_aload_n hx hb dX4_pair_54 rfl (lv_at hl 1 rfl) ?_
            refine va_get (ci := 4) (v := .ref (h 7)) (C := RX4) (T := TX4) (N := 6) hx hb hts hinX4 hown hK hP 0 rfl rfl 2 (by decide) (hts (.fieldLink RX4 25 "TypingTutor" "pairs" "LTypingTutor$Knowledge;") (List.mem_of_getElem? (i := 3) rfl)) (fun _ h9 => h9) rfl dX4_pair_55 ?_
            refine lv_iload hx hb dX4_pair_58 (lv_at hl 0 rfl) ?_
            refine lv_iload_n hx hb dX4_pair_60 rfl (lv_at hl 4 rfl) ?_
            refine zci (zrV (As := [.int (nI (26 * a + b)), .int 2]) (rest := []) ⟨hx, hb, hml, hown, hts⟩ (zV 7 hP hD hK hE hB hS rfl rfl) (c_X1_tell_p2 (k := (26 * a + b)) (by omega)) (cwV 2 hts gX4_pair_X1_tell rfl rfl rfl hdv_X1_tell ⟨Nat.le_of_ble_eq_true rfl, Nat.le_of_ble_eq_true rfl⟩) rfl rfl hl.1 rfl (lv_room (Nat.le_of_ble_eq_true rfl)) dX4_pair_61 ⟨Nat.le_of_ble_eq_true rfl, Nat.le_of_ble_eq_true rfl⟩) hS (fun H locs hP hD hS => ?_)
            have hP : va_P D vwCl (zWT cI cJ h (n, L) (kt, km, kl) (pt, pm, pl) (nu, le, ow, fo, run, wc, lc, tr, cl, tm, ms) (yl, yc, yt, co, pa, su, sc) mc ++ R) _ := hP
            have hD : va_D (zAb B) (zWT cI cJ h (n, L) (kt, km, kl) (pt, pm, pl) (nu, le, ow, fo, run, wc, lc, tr, cl, tm, ms) (yl, yc, yt, co, pa, su, sc) mc ++ R) := hD
            exact W.iret (v := (pl (26 * a + b))) hx hb hr (fun t ht hW => ⟨⟨_, (), rfl, rfl, by rw [ht]; exact hP, hD⟩, hS.F ht⟩) hS.2.2 dX4_pair_64
          · skip
            exfalso; first | omega | (revert c_5; decide) | (exact absurd rfl c_5) | simp_all
        · skip
          exfalso; first | omega | (revert c_4; decide) | (exact absurd rfl c_4) | simp_all

set_option maxHeartbeats 4000000 in
set_option maxRecDepth 100000 in
theorem c_X4_pair_3 {l : Launch} {B kr kp : Nat} {D : va_G} {cI cJ cZ : ClassId} {h : Nat → Nat} {R : va_W} {n : Nat} {L : Nat → Int64} {kt : Nat → Int32} {km : Nat → Int32} {kl : Nat → Int32} {pt : Nat → Int32} {pm : Nat → Int32} {pl : Nat → Int32} {nu : Nat → Int32} {le : Nat → Int32} {ow : Nat → Int32} {fo : Nat → Int32} {run : Bool} {wc : Nat} {lc : Nat} {tr : Nat} {cl : Nat} {tm : Nat} {ms : Nat} {yl : Nat → Int32} {yc : Nat → Int32} {yt : Nat → Int32} {co : Nat} {pa : Int32} {su : Nat} {sc : Nat} {mc : Nat → Int32} {a : Nat} {b : Nat}   (h1 : a < 26) (h2 : b < 26) : Met l yX4_pair wsX4_pair ({ frames := 3, cells := 0, slots := 0, locals := 64 }) (zPc B kr kp D (zTy cI cJ cZ) (zWT cI cJ h (n, L) (kt, km, kl) (pt, pm, pl) (nu, le, ow, fo, run, wc, lc, tr, cl, tm, ms) (yl, yc, yt, co, pa, su, sc) mc ++ R) [.ref (h 0), .int (nI a), .int (nI b), .int 3]) (zQi B D (zWT cI cJ h (n, L) (kt, km, kl) (pt, pm, pl) (nu, le, ow, fo, run, wc, lc, tr, cl, tm, ms) (yl, yc, yt, co, pa, su, sc) mc ++ R) (zwk pt pl (nI (26 * a + b)))) 0 0 (zAb B) := by
  refine Met.ofW (cc := cX4_pair) (maxL := 5) (ret := (some .int)) (by decide) rfl ?_
  intro p e s m args below meth c s₁ B0 hml hv
  obtain ⟨rfl, hP, hD, hK, hE, hB⟩ := hv
  have hx := B0.exec
  have hb := B0.bytes
  have hr := B0.returns
  have hts := atoms_spec (ws := wsX4_pair) B0.pre
  have hown : s.vm.findClass RX4 = some m.cls := findClass_of_methodNamed B0.named
  have hlocks := B0.notSynchronized
  have hA : ∀ q : Nat, s.heap.size ≤ q → zAb B q := fun q hq => Nat.le_trans hB hq
  have hS : va_S (zAb B) s.heap s.heap [] := va_S.rf
  have hl := lv_entry ([.ref (h 0), .int (nI a), .int (nI b), .int 3]) (n := 5) (Nat.le_of_ble_eq_true rfl)
  rw [lg_entry_eq]
  generalize (lg_sl ([.ref (h 0), .int (nI a), .int (nI b), .int 3]) ++ List.replicate (5 - (lg_sl ([.ref (h 0), .int (nI a), .int (nI b), .int 3])).length) Slot.unset).toArray = ls at hl ⊢
  have hl : lv_has ls 5 [(0, .ref (h 0)), (1, .int (nI a)), (2, .int (nI b)), (3, .int 3)] := hl
  have hP : va_P D vwCl (zWT cI cJ h (n, L) (kt, km, kl) (pt, pm, pl) (nu, le, ow, fo, run, wc, lc, tr, cl, tm, ms) (yl, yc, yt, co, pa, su, sc) mc ++ R) s.heap := hP
  have hD : va_D (zAb B) (zWT cI cJ h (n, L) (kt, km, kl) (pt, pm, pl) (nu, le, ow, fo, run, wc, lc, tr, cl, tm, ms) (yl, yc, yt, co, pa, su, sc) mc ++ R) := hD
  refine lv_iload_n hx hb dX4_pair_0 rfl (lv_at hl 1 rfl) ?_
  refine zci (zrS (As := [.int (nI a)]) (rest := []) ⟨hx, hb, hml, hown, hts⟩ (zS hP hD hK hE hB hS) (c_X4_isKey  ) (va_cwS 1 hts gX4_pair_X4_isKey rfl rfl rfl hds_X4_isKey ⟨Nat.le_of_ble_eq_true rfl, Nat.le_of_ble_eq_true rfl⟩) rfl rfl hl.1 rfl (lv_room (Nat.le_of_ble_eq_true rfl)) dX4_pair_1 ⟨Nat.le_of_ble_eq_true rfl, Nat.le_of_ble_eq_true rfl⟩) hS (fun H locs hP hD hS => ?_)
  have hP : va_P D vwCl (zWT cI cJ h (n, L) (kt, km, kl) (pt, pm, pl) (nu, le, ow, fo, run, wc, lc, tr, cl, tm, ms) (yl, yc, yt, co, pa, su, sc) mc ++ R) _ := hP
  have hD : va_D (zAb B) (zWT cI cJ h (n, L) (kt, km, kl) (pt, pm, pl) (nu, le, ow, fo, run, wc, lc, tr, cl, tm, ms) (yl, yc, yt, co, pa, su, sc) mc ++ R) := hD
  refine lv_if_eq (tgt := 23) hx hb dX4_pair_4 (by decide) (fun c_1 => ?_) (fun c_1 => ?_)
  · skip
    have c_1 := zq_0 c_1
    exact absurd ⟨nI_pos (by omega), nI_ge h1 (by decide)⟩ c_1
  · skip
    have c_1 := zq_n c_1
    refine lv_iload_n hx hb dX4_pair_7 rfl (lv_at hl 2 rfl) ?_
    refine zci (zrS (As := [.int (nI b)]) (rest := []) ⟨hx, hb, hml, hown, hts⟩ (zS hP hD hK hE hB hS) (c_X4_isKey  ) (va_cwS 1 hts gX4_pair_X4_isKey rfl rfl rfl hds_X4_isKey ⟨Nat.le_of_ble_eq_true rfl, Nat.le_of_ble_eq_true rfl⟩) rfl rfl hl.1 rfl (lv_room (Nat.le_of_ble_eq_true rfl)) dX4_pair_8 ⟨Nat.le_of_ble_eq_true rfl, Nat.le_of_ble_eq_true rfl⟩) hS (fun H locs hP hD hS => ?_)
    have hP : va_P D vwCl (zWT cI cJ h (n, L) (kt, km, kl) (pt, pm, pl) (nu, le, ow, fo, run, wc, lc, tr, cl, tm, ms) (yl, yc, yt, co, pa, su, sc) mc ++ R) _ := hP
    have hD : va_D (zAb B) (zWT cI cJ h (n, L) (kt, km, kl) (pt, pm, pl) (nu, le, ow, fo, run, wc, lc, tr, cl, tm, ms) (yl, yc, yt, co, pa, su, sc) mc ++ R) := hD
    refine lv_if_eq (tgt := 23) hx hb dX4_pair_11 (by decide) (fun c_2 => ?_) (fun c_2 => ?_)
    · skip
      have c_2 := zq_0 c_2
      exact absurd ⟨nI_pos (by omega), nI_ge h2 (by decide)⟩ c_2
    · skip
      have c_2 := zq_n c_2
      refine lv_iload_n hx hb dX4_pair_14 rfl (lv_at hl 3 rfl) ?_
      refine lv_if_lt (tgt := 23) hx hb dX4_pair_15 (by decide) (fun c_3 => ?_) (fun c_3 => ?_)
      · skip
        exfalso; first | omega | (revert c_3; decide) | (exact absurd rfl c_3) | simp_all
      · skip
        refine lv_iload_n hx hb dX4_pair_18 rfl (lv_at hl 3 rfl) ?_
        refine lv_iconst (v := 3) hx hb dX4_pair_19 (by decide) ?_
        refine lv_icmp_le (tgt := 33) hx hb dX4_pair_20 (by decide) (fun c_4 => ?_) (fun c_4 => ?_)
        · skip
          refine lv_iload_n hx hb dX4_pair_33 rfl (lv_at hl 1 rfl) ?_
          refine lv_iload_n hx hb dX4_pair_34 rfl (lv_at hl 2 rfl) ?_
          refine zci (zrS (As := [.int (nI a), .int (nI b)]) (rest := []) ⟨hx, hb, hml, hown, hts⟩ (zS hP hD hK hE hB hS) (c_X4_pairOf  ) (va_cwS 2 hts gX4_pair_X4_pairOf rfl rfl rfl hds_X4_pairOf ⟨Nat.le_of_ble_eq_true rfl, Nat.le_of_ble_eq_true rfl⟩) rfl rfl hl.1 rfl (lv_room (Nat.le_of_ble_eq_true rfl)) dX4_pair_35 ⟨Nat.le_of_ble_eq_true rfl, Nat.le_of_ble_eq_true rfl⟩) hS (fun H locs hP hD hS => ?_)
          have hP : va_P D vwCl (zWT cI cJ h (n, L) (kt, km, kl) (pt, pm, pl) (nu, le, ow, fo, run, wc, lc, tr, cl, tm, ms) (yl, yc, yt, co, pa, su, sc) mc ++ R) _ := hP
          have hD : va_D (zAb B) (zWT cI cJ h (n, L) (kt, km, kl) (pt, pm, pl) (nu, le, ow, fo, run, wc, lc, tr, cl, tm, ms) (yl, yc, yt, co, pa, su, sc) mc ++ R) := hD
          rw [show (26 * (nI a) + (nI b)) = (nI (26 * a + b)) from (by rw [show (26 : Int32) = nI 26 from rfl, pk_mul, nI_add])]
          refine lv_istore (lv' := [(4, .int (nI (26 * a + b))), (0, .ref (h 0)), (1, .int (nI a)), (2, .int (nI b)), (3, .int 3)]) hx hb dX4_pair_38 hl (by decide) rfl (fun ls hl => ?_)
          refine lv_iload_n hx hb dX4_pair_40 rfl (lv_at hl 4 rfl) ?_
          refine lv_iconst (v := 3) hx hb dX4_pair_41 (by decide) ?_
          refine lv_icmp_ne (tgt := 54) hx hb dX4_pair_42 (by decide) (fun c_5 => ?_) (fun c_5 => ?_)
          · skip
            exfalso; first | omega | (revert c_5; decide) | (exact absurd rfl c_5) | simp_all
          · skip
            refine lv_aload_n hx hb dX4_pair_45 rfl (lv_at hl 1 rfl) ?_
            refine lv_iload hx hb dX4_pair_46 (lv_at hl 0 rfl) ?_
            refine zci (zrV (As := [.int (nI (26 * a + b))]) (rest := []) ⟨hx, hb, hml, hown, hts⟩ (zV 0 hP hD hK hE hB hS rfl rfl) (c_X4_weaknessOf  ) (cwV 1 hts gX4_pair_X4_weaknessOf rfl rfl rfl hdv_X4_weaknessOf ⟨Nat.le_of_ble_eq_true rfl, Nat.le_of_ble_eq_true rfl⟩) rfl rfl hl.1 rfl (lv_room (Nat.le_of_ble_eq_true rfl)) dX4_pair_48 ⟨Nat.le_of_ble_eq_true rfl, Nat.le_of_ble_eq_true rfl⟩) hS (fun H locs hP hD hS => ?_)
            have hP : va_P D vwCl (zWT cI cJ h (n, L) (kt, km, kl) (pt, pm, pl) (nu, le, ow, fo, run, wc, lc, tr, cl, tm, ms) (yl, yc, yt, co, pa, su, sc) mc ++ R) _ := hP
            have hD : va_D (zAb B) (zWT cI cJ h (n, L) (kt, km, kl) (pt, pm, pl) (nu, le, ow, fo, run, wc, lc, tr, cl, tm, ms) (yl, yc, yt, co, pa, su, sc) mc ++ R) := hD
            refine lv_goto (tgt := 64) hx hb dX4_pair_51 (by decide) ?_
            exact W.iret (v := (zwk pt pl (nI (26 * a + b)))) hx hb hr (fun t ht hW => ⟨⟨_, (), rfl, rfl, by rw [ht]; exact hP, hD⟩, hS.F ht⟩) hS.2.2 dX4_pair_64
        · skip
          exfalso; first | omega | (revert c_4; decide) | (exact absurd rfl c_4) | simp_all

set_option maxHeartbeats 4000000 in
set_option maxRecDepth 100000 in
theorem c_X4_pair_x {l : Launch} {B kr kp : Nat} {D : va_G} {cI cJ cZ : ClassId} {h : Nat → Nat} {R : va_W} {n : Nat} {L : Nat → Int64} {kt : Nat → Int32} {km : Nat → Int32} {kl : Nat → Int32} {pt : Nat → Int32} {pm : Nat → Int32} {pl : Nat → Int32} {nu : Nat → Int32} {le : Nat → Int32} {ow : Nat → Int32} {fo : Nat → Int32} {run : Bool} {wc : Nat} {lc : Nat} {tr : Nat} {cl : Nat} {tm : Nat} {ms : Nat} {yl : Nat → Int32} {yc : Nat → Int32} {yt : Nat → Int32} {co : Nat} {pa : Int32} {su : Nat} {sc : Nat} {mc : Nat → Int32} {a : Int32} {b : Int32} {i : Int32}   (hls : l.stackTraces = false) (h1 : ¬ ((¬ a < 0 ∧ ¬ 26 ≤ a) ∧ (¬ b < 0 ∧ ¬ 26 ≤ b) ∧ ¬ i < 0 ∧ i ≤ 3)) : vx_Met l yX4_pair wsX4_pair ({ frames := 6, cells := 1, slots := 6, locals := 82 }) (zPc B kr kp D (zTy cI cJ cZ) (zWT cI cJ h (n, L) (kt, km, kl) (pt, pm, pl) (nu, le, ow, fo, run, wc, lc, tr, cl, tm, ms) (yl, yc, yt, co, pa, su, sc) mc ++ R) [.ref (h 0), .int a, .int b, .int i]) (zQxi B D (zWT cI cJ h (n, L) (kt, km, kl) (pt, pm, pl) (nu, le, ow, fo, run, wc, lc, tr, cl, tm, ms) (yl, yc, yt, co, pa, su, sc) mc ++ R)) (zXC "java/lang/IndexOutOfBoundsException" B D (zWT cI cJ h (n, L) (kt, km, kl) (pt, pm, pl) (nu, le, ow, fo, run, wc, lc, tr, cl, tm, ms) (yl, yc, yt, co, pa, su, sc) mc ++ R)) 1 6 (zAb B) := by
  refine vx_ofW (cc := cX4_pair) (maxL := 5) (ret := (some .int)) (by decide) rfl ?_
  intro p e s m args below meth c s₁ B0 hml ht9 hv
  obtain ⟨rfl, hP, hD, hK, hE, hB⟩ := hv
  have hx := B0.exec
  have hb := B0.bytes
  have hr := B0.returns
  have hts := atoms_spec (ws := wsX4_pair) B0.pre
  have hown : s.vm.findClass RX4 = some m.cls := findClass_of_methodNamed B0.named
  have hlocks := B0.notSynchronized
  have hA : ∀ q : Nat, s.heap.size ≤ q → zAb B q := fun q hq => Nat.le_trans hB hq
  have hS : va_S (zAb B) s.heap s.heap [] := va_S.rf
  have hl := lv_entry ([.ref (h 0), .int a, .int b, .int i]) (n := 5) (Nat.le_of_ble_eq_true rfl)
  rw [lg_entry_eq]
  generalize (lg_sl ([.ref (h 0), .int a, .int b, .int i]) ++ List.replicate (5 - (lg_sl ([.ref (h 0), .int a, .int b, .int i])).length) Slot.unset).toArray = ls at hl ⊢
  have hl : lv_has ls 5 [(0, .ref (h 0)), (1, .int a), (2, .int b), (3, .int i)] := hl
  have hP : va_P D vwCl (zWT cI cJ h (n, L) (kt, km, kl) (pt, pm, pl) (nu, le, ow, fo, run, wc, lc, tr, cl, tm, ms) (yl, yc, yt, co, pa, su, sc) mc ++ R) s.heap := hP
  have hD : va_D (zAb B) (zWT cI cJ h (n, L) (kt, km, kl) (pt, pm, pl) (nu, le, ow, fo, run, wc, lc, tr, cl, tm, ms) (yl, yc, yt, co, pa, su, sc) mc ++ R) := hD
  refine lv_iload_n hx hb dX4_pair_0 rfl (lv_at hl 1 rfl) ?_
  refine zci (zrS (As := [.int a]) (rest := []) ⟨hx, hb, hml, hown, hts⟩ (zS hP hD hK hE hB hS) (c_X4_isKey  ) (va_cwS 1 hts gX4_pair_X4_isKey rfl rfl rfl hds_X4_isKey ⟨Nat.le_of_ble_eq_true rfl, Nat.le_of_ble_eq_true rfl⟩) rfl rfl hl.1 rfl (lv_room (Nat.le_of_ble_eq_true rfl)) dX4_pair_1 ⟨Nat.le_of_ble_eq_true rfl, Nat.le_of_ble_eq_true rfl⟩) hS (fun H locs hP hD hS => ?_)
  have hP : va_P D vwCl (zWT cI cJ h (n, L) (kt, km, kl) (pt, pm, pl) (nu, le, ow, fo, run, wc, lc, tr, cl, tm, ms) (yl, yc, yt, co, pa, su, sc) mc ++ R) _ := hP
  have hD : va_D (zAb B) (zWT cI cJ h (n, L) (kt, km, kl) (pt, pm, pl) (nu, le, ow, fo, run, wc, lc, tr, cl, tm, ms) (yl, yc, yt, co, pa, su, sc) mc ++ R) := hD
  refine lv_if_eq (tgt := 23) hx hb dX4_pair_4 (by decide) (fun c_1 => ?_) (fun c_1 => ?_)
  · skip
    have c_1 := zq_0 c_1
    exact zthrow hx hb hls hown hE hP hD hS (hl.1.trans hml.symm) ht9 hlocks (by decide +kernel) (List.mem_of_getElem? (i := 11) rfl) (by decide +kernel) (hts (.classLink RX4 81 "java/lang/IndexOutOfBoundsException") (List.mem_of_getElem? (i := 1) rfl)) (hts (.initialized "java/lang/IndexOutOfBoundsException") (List.mem_of_getElem? (i := 2) rfl)) (fun w h9 => hts w (List.mem_cons_of_mem _ (List.mem_append_right _ h9))) (by decide +kernel) (by decide +kernel) dX4_pair_23 dX4_pair_26 dX4_pair_27 dX4_pair_29 dX4_pair_32 ⟨Nat.le_of_ble_eq_true rfl, Nat.le_of_ble_eq_true rfl, Nat.le_of_ble_eq_true rfl, Nat.le_of_ble_eq_true rfl⟩
  · skip
    have c_1 := zq_n c_1
    refine lv_iload_n hx hb dX4_pair_7 rfl (lv_at hl 2 rfl) ?_
    refine zci (zrS (As := [.int b]) (rest := []) ⟨hx, hb, hml, hown, hts⟩ (zS hP hD hK hE hB hS) (c_X4_isKey  ) (va_cwS 1 hts gX4_pair_X4_isKey rfl rfl rfl hds_X4_isKey ⟨Nat.le_of_ble_eq_true rfl, Nat.le_of_ble_eq_true rfl⟩) rfl rfl hl.1 rfl (lv_room (Nat.le_of_ble_eq_true rfl)) dX4_pair_8 ⟨Nat.le_of_ble_eq_true rfl, Nat.le_of_ble_eq_true rfl⟩) hS (fun H locs hP hD hS => ?_)
    have hP : va_P D vwCl (zWT cI cJ h (n, L) (kt, km, kl) (pt, pm, pl) (nu, le, ow, fo, run, wc, lc, tr, cl, tm, ms) (yl, yc, yt, co, pa, su, sc) mc ++ R) _ := hP
    have hD : va_D (zAb B) (zWT cI cJ h (n, L) (kt, km, kl) (pt, pm, pl) (nu, le, ow, fo, run, wc, lc, tr, cl, tm, ms) (yl, yc, yt, co, pa, su, sc) mc ++ R) := hD
    refine lv_if_eq (tgt := 23) hx hb dX4_pair_11 (by decide) (fun c_2 => ?_) (fun c_2 => ?_)
    · skip
      have c_2 := zq_0 c_2
      exact zthrow hx hb hls hown hE hP hD hS (hl.1.trans hml.symm) ht9 hlocks (by decide +kernel) (List.mem_of_getElem? (i := 11) rfl) (by decide +kernel) (hts (.classLink RX4 81 "java/lang/IndexOutOfBoundsException") (List.mem_of_getElem? (i := 1) rfl)) (hts (.initialized "java/lang/IndexOutOfBoundsException") (List.mem_of_getElem? (i := 2) rfl)) (fun w h9 => hts w (List.mem_cons_of_mem _ (List.mem_append_right _ h9))) (by decide +kernel) (by decide +kernel) dX4_pair_23 dX4_pair_26 dX4_pair_27 dX4_pair_29 dX4_pair_32 ⟨Nat.le_of_ble_eq_true rfl, Nat.le_of_ble_eq_true rfl, Nat.le_of_ble_eq_true rfl, Nat.le_of_ble_eq_true rfl⟩
    · skip
      have c_2 := zq_n c_2
      refine lv_iload_n hx hb dX4_pair_14 rfl (lv_at hl 3 rfl) ?_
      refine lv_if_lt (tgt := 23) hx hb dX4_pair_15 (by decide) (fun c_3 => ?_) (fun c_3 => ?_)
      · skip
        exact zthrow hx hb hls hown hE hP hD hS (hl.1.trans hml.symm) ht9 hlocks (by decide +kernel) (List.mem_of_getElem? (i := 11) rfl) (by decide +kernel) (hts (.classLink RX4 81 "java/lang/IndexOutOfBoundsException") (List.mem_of_getElem? (i := 1) rfl)) (hts (.initialized "java/lang/IndexOutOfBoundsException") (List.mem_of_getElem? (i := 2) rfl)) (fun w h9 => hts w (List.mem_cons_of_mem _ (List.mem_append_right _ h9))) (by decide +kernel) (by decide +kernel) dX4_pair_23 dX4_pair_26 dX4_pair_27 dX4_pair_29 dX4_pair_32 ⟨Nat.le_of_ble_eq_true rfl, Nat.le_of_ble_eq_true rfl, Nat.le_of_ble_eq_true rfl, Nat.le_of_ble_eq_true rfl⟩
      · skip
        refine lv_iload_n hx hb dX4_pair_18 rfl (lv_at hl 3 rfl) ?_
        refine lv_iconst (v := 3) hx hb dX4_pair_19 (by decide) ?_
        refine lv_icmp_le (tgt := 33) hx hb dX4_pair_20 (by decide) (fun c_4 => ?_) (fun c_4 => ?_)
        · skip
          exact absurd ⟨c_1, c_2, c_3, c_4⟩ h1
        · skip
          exact zthrow hx hb hls hown hE hP hD hS (hl.1.trans hml.symm) ht9 hlocks (by decide +kernel) (List.mem_of_getElem? (i := 11) rfl) (by decide +kernel) (hts (.classLink RX4 81 "java/lang/IndexOutOfBoundsException") (List.mem_of_getElem? (i := 1) rfl)) (hts (.initialized "java/lang/IndexOutOfBoundsException") (List.mem_of_getElem? (i := 2) rfl)) (fun w h9 => hts w (List.mem_cons_of_mem _ (List.mem_append_right _ h9))) (by decide +kernel) (by decide +kernel) dX4_pair_23 dX4_pair_26 dX4_pair_27 dX4_pair_29 dX4_pair_32 ⟨Nat.le_of_ble_eq_true rfl, Nat.le_of_ble_eq_true rfl, Nat.le_of_ble_eq_true rfl, Nat.le_of_ble_eq_true rfl⟩

set_option maxHeartbeats 4000000 in
set_option maxRecDepth 100000 in
theorem c_X4_weakest {l : Launch} {B kr kp : Nat} {D : va_G} {cI cJ cZ : ClassId} {h : Nat → Nat} {R : va_W} {n : Nat} {L : Nat → Int64} {kt : Nat → Int32} {km : Nat → Int32} {kl : Nat → Int32} {pt : Nat → Int32} {pm : Nat → Int32} {pl : Nat → Int32} {nu : Nat → Int32} {le : Nat → Int32} {ow : Nat → Int32} {fo : Nat → Int32} {run : Bool} {wc : Nat} {lc : Nat} {tr : Nat} {cl : Nat} {tm : Nat} {ms : Nat} {yl : Nat → Int32} {yc : Nat → Int32} {yt : Nat → Int32} {co : Nat} {pa : Int32} {su : Nat} {sc : Nat} {mc : Nat → Int32}    (hpt : ∀ p, p < 676 → ∃ k, k < 2147483648 ∧ pt p = nI k) : Met l yX4_weakest wsX4_weakest ({ frames := 3, cells := 0, slots := 0, locals := 64 }) (zPc B kr kp D (zTy cI cJ cZ) (zWT cI cJ h (n, L) (kt, km, kl) (pt, pm, pl) (nu, le, ow, fo, run, wc, lc, tr, cl, tm, ms) (yl, yc, yt, co, pa, su, sc) mc ++ R) [.ref (h 0)]) (zQi B D (zWT cI cJ h (n, L) (kt, km, kl) (pt, pm, pl) (nu, le, ow, fo, run, wc, lc, tr, cl, tm, ms) (yl, yc, yt, co, pa, su, sc) mc ++ R) (zws pt pl 676)) 0 0 (zAb B) := by
  refine Met.ofW (cc := cX4_weakest) (maxL := 3) (ret := (some .int)) (by decide) rfl ?_
  intro p e s m args below meth c s₁ B0 hml hv
  obtain ⟨rfl, hP, hD, hK, hE, hB⟩ := hv
  have hx := B0.exec
  have hb := B0.bytes
  have hr := B0.returns
  have hts := atoms_spec (ws := wsX4_weakest) B0.pre
  have hown : s.vm.findClass RX4 = some m.cls := findClass_of_methodNamed B0.named
  have hlocks := B0.notSynchronized
  have hA : ∀ q : Nat, s.heap.size ≤ q → zAb B q := fun q hq => Nat.le_trans hB hq
  have hS : va_S (zAb B) s.heap s.heap [] := va_S.rf
  have hl := lv_entry ([.ref (h 0)]) (n := 3) (Nat.le_of_ble_eq_true rfl)
  rw [lg_entry_eq]
  generalize (lg_sl ([.ref (h 0)]) ++ List.replicate (3 - (lg_sl ([.ref (h 0)])).length) Slot.unset).toArray = ls at hl ⊢
  have hl : lv_has ls 3 [(0, .ref (h 0))] := hl
  have hinX4 : ∀ w ∈ wsX40, w ∈ wsX4_weakest := fun _ h => List.mem_cons_of_mem _ (List.mem_append_left _ (List.mem_append_right _ h))
  have hP : va_P D vwCl (zWT cI cJ h (n, L) (kt, km, kl) (pt, pm, pl) (nu, le, ow, fo, run, wc, lc, tr, cl, tm, ms) (yl, yc, yt, co, pa, su, sc) mc ++ R) s.heap := hP
  have hD : va_D (zAb B) (zWT cI cJ h (n, L) (kt, km, kl) (pt, pm, pl) (nu, le, ow, fo, run, wc, lc, tr, cl, tm, ms) (yl, yc, yt, co, pa, su, sc) mc ++ R) := hD
  refine lv_iconst (v := (-1)) hx hb dX4_weakest_0 (by decide) ?_
  refine lv_istore_n (lv' := [(1, .int (-1)), (0, .ref (h 0))]) hx hb dX4_weakest_1 rfl hl (by decide) rfl (fun ls hl => ?_)
  refine lv_iconst (v := 0) hx hb dX4_weakest_2 (by decide) ?_
  refine lv_istore_n (lv' := [(2, .int 0), (1, .int (-1)), (0, .ref (h 0))]) hx hb dX4_weakest_3 rfl hl (by decide) rfl (fun ls hl => ?_)
  refine zloop (σ := (Nat) × (Int32)) (nL := 3) (fun x9 => (zWT cI cJ h (n, L) (kt, km, kl) (pt, pm, pl) (nu, le, ow, fo, run, wc, lc, tr, cl, tm, ms) (yl, yc, yt, co, pa, su, sc) mc ++ R)) (fun x9 => [(2, .int (nI x9.1)), (1, .int x9.2), (0, .ref (h 0))]) (fun x9 => []) (fun x9 => (x9.1 ≤ 676) ∧ x9.2 = zws pt pl x9.1) (fun x9 => 676 - x9.1) ?_ (0, -1) (⟨by omega, rfl⟩) _ _ _ hP hD hS (lv_sub hl [0, 1, 2] rfl)
  rintro ⟨j, z⟩ hI ih H locs ls hP hD hS hl
  try dsimp only at hI ih hP hD hS hl ⊢
  obtain ⟨hI, rfl⟩ := hI
  refine lv_iload_n hx hb dX4_weakest_4 rfl (lv_at hl 0 rfl) ?_
  refine lv_sipush (v := 676) hx hb dX4_weakest_5 (by decide) ?_
  refine lv_icmp_ge (tgt := 48) hx hb dX4_weakest_8 (by decide) (fun c_1 => ?_) (fun c_1 => ?_)
  · skip
    have c_1 : 676 ≤ j := (nI_leI (a := 676) (b := j) (by omega) (by omega)).mp c_1
    obtain rfl : 676 = j := by omega
    refine lv_iload_n hx hb dX4_weakest_48 rfl (lv_at hl 1 rfl) ?_
    exact W.iret (v := (zws pt pl 676)) hx hb hr (fun t ht hW => ⟨⟨_, (), rfl, rfl, by rw [ht]; exact hP, hD⟩, hS.F ht⟩) hS.2.2 dX4_weakest_49
  · skip
    have c_1 : ¬ 676 ≤ j := fun hh => c_1 ((nI_leI (a := 676) (b := j) (by omega) (by omega)).mpr hh)
    refine lv_aload_n hx hb dX4_weakest_11 rfl (lv_at hl 2 rfl) ?_
    refine va_get (ci := 4) (v := .ref (h 7)) (C := RX4) (T := TX4) (N := 6) hx hb hts hinX4 hown hK hP 0 rfl rfl 2 (by decide) (hts (.fieldLink RX4 25 "TypingTutor" "pairs" "LTypingTutor$Knowledge;") (List.mem_of_getElem? (i := 1) rfl)) (fun _ h9 => h9) rfl dX4_weakest_12 ?_
    refine lv_iload_n hx hb dX4_weakest_15 rfl (lv_at hl 0 rfl) ?_
    refine zci (zrV (As := [.int (nI j)]) (rest := []) ⟨hx, hb, hml, hown, hts⟩ (zV 7 hP hD hK hE hB hS rfl rfl) (c_X1_triesOf_p  ) (cwV 1 hts gX4_weakest_X1_triesOf rfl rfl rfl hdv_X1_triesOf ⟨Nat.le_of_ble_eq_true rfl, Nat.le_of_ble_eq_true rfl⟩) rfl rfl hl.1 rfl (lv_room (Nat.le_of_ble_eq_true rfl)) dX4_weakest_16 ⟨Nat.le_of_ble_eq_true rfl, Nat.le_of_ble_eq_true rfl⟩) hS (fun H locs hP hD hS => ?_)
    have hP : va_P D vwCl (zWT cI cJ h (n, L) (kt, km, kl) (pt, pm, pl) (nu, le, ow, fo, run, wc, lc, tr, cl, tm, ms) (yl, yc, yt, co, pa, su, sc) mc ++ R) _ := hP
    have hD : va_D (zAb B) (zWT cI cJ h (n, L) (kt, km, kl) (pt, pm, pl) (nu, le, ow, fo, run, wc, lc, tr, cl, tm, ms) (yl, yc, yt, co, pa, su, sc) mc ++ R) := hD
    rw [show (zrd 676 pt (nI j)) = (pt j) from zrd_in (by omega) (by omega)]
    refine lv_if_le (tgt := 42) hx hb dX4_weakest_19 (by decide) (fun c_2 => ?_) (fun c_2 => ?_)
    · skip
      refine lv_iinc (v := (nI (j + 1))) (lv' := [(2, .int (nI (j + 1))), (1, .int (zws pt pl j)), (0, .ref (h 0))]) hx hb dX4_weakest_42 hl (k := 0) rfl (nI_add j 1) (by decide) rfl (fun ls hl => ?_)
      refine lv_goto (tgt := 4) hx hb dX4_weakest_45 (by decide) ?_
      exact ih (j + 1, (zws pt pl j)) (⟨by omega, (if_pos (zle0 (hpt j (by omega)) c_2)).symm⟩) (by omega) _ _ _ hP hD hS (lv_sub hl [0, 1, 2] rfl)
    · skip
      refine lv_iload_n hx hb dX4_weakest_22 rfl (lv_at hl 1 rfl) ?_
      refine lv_iconst (v := (-1)) hx hb dX4_weakest_23 (by decide) ?_
      refine lv_icmp_eq (tgt := 40) hx hb dX4_weakest_24 (by decide) (fun c_3 => ?_) (fun c_3 => ?_)
      · skip
        refine lv_iload_n hx hb dX4_weakest_40 rfl (lv_at hl 0 rfl) ?_
        refine lv_istore_n (lv' := [(1, .int (nI j)), (2, .int (nI j)), (0, .ref (h 0))]) hx hb dX4_weakest_41 rfl hl (by decide) rfl (fun ls hl => ?_)
        refine lv_iinc (v := (nI (j + 1))) (lv' := [(2, .int (nI (j + 1))), (1, .int (nI j)), (0, .ref (h 0))]) hx hb dX4_weakest_42 hl (k := 1) rfl (nI_add j 1) (by decide) rfl (fun ls hl => ?_)
        refine lv_goto (tgt := 4) hx hb dX4_weakest_45 (by decide) ?_
        exact ih (j + 1, (nI j)) (⟨by omega, ((if_neg (znle0 c_2)).trans (if_pos (Or.inl c_3))).symm⟩) (by omega) _ _ _ hP hD hS (lv_sub hl [0, 1, 2] rfl)
      · skip
        refine lv_aload_n hx hb dX4_weakest_27 rfl (lv_at hl 2 rfl) ?_
        refine lv_iload_n hx hb dX4_weakest_28 rfl (lv_at hl 0 rfl) ?_
        refine zci (zrV (As := [.int (nI j)]) (rest := []) ⟨hx, hb, hml, hown, hts⟩ (zV 0 hP hD hK hE hB hS rfl rfl) (c_X4_weaknessOf  ) (cwV 1 hts gX4_weakest_X4_weaknessOf rfl rfl rfl hdv_X4_weaknessOf ⟨Nat.le_of_ble_eq_true rfl, Nat.le_of_ble_eq_true rfl⟩) rfl rfl hl.1 rfl (lv_room (Nat.le_of_ble_eq_true rfl)) dX4_weakest_29 ⟨Nat.le_of_ble_eq_true rfl, Nat.le_of_ble_eq_true rfl⟩) hS (fun H locs hP hD hS => ?_)
        have hP : va_P D vwCl (zWT cI cJ h (n, L) (kt, km, kl) (pt, pm, pl) (nu, le, ow, fo, run, wc, lc, tr, cl, tm, ms) (yl, yc, yt, co, pa, su, sc) mc ++ R) _ := hP
        have hD : va_D (zAb B) (zWT cI cJ h (n, L) (kt, km, kl) (pt, pm, pl) (nu, le, ow, fo, run, wc, lc, tr, cl, tm, ms) (yl, yc, yt, co, pa, su, sc) mc ++ R) := hD
        refine lv_aload_n hx hb dX4_weakest_32 rfl (lv_at hl 2 rfl) ?_
        refine lv_iload_n hx hb dX4_weakest_33 rfl (lv_at hl 1 rfl) ?_
        refine zci (zrV (As := [.int (zws pt pl j)]) (rest := [.int (zwk pt pl (nI j))]) ⟨hx, hb, hml, hown, hts⟩ (zV 0 hP hD hK hE hB hS rfl rfl) (c_X4_weaknessOf  ) (cwV 1 hts gX4_weakest_X4_weaknessOf rfl rfl rfl hdv_X4_weaknessOf ⟨Nat.le_of_ble_eq_true rfl, Nat.le_of_ble_eq_true rfl⟩) rfl rfl hl.1 rfl (lv_room (Nat.le_of_ble_eq_true rfl)) dX4_weakest_34 ⟨Nat.le_of_ble_eq_true rfl, Nat.le_of_ble_eq_true rfl⟩) hS (fun H locs hP hD hS => ?_)
        have hP : va_P D vwCl (zWT cI cJ h (n, L) (kt, km, kl) (pt, pm, pl) (nu, le, ow, fo, run, wc, lc, tr, cl, tm, ms) (yl, yc, yt, co, pa, su, sc) mc ++ R) _ := hP
        have hD : va_D (zAb B) (zWT cI cJ h (n, L) (kt, km, kl) (pt, pm, pl) (nu, le, ow, fo, run, wc, lc, tr, cl, tm, ms) (yl, yc, yt, co, pa, su, sc) mc ++ R) := hD
        refine lv_icmp_le (tgt := 42) hx hb dX4_weakest_37 (by decide) (fun c_4 => ?_) (fun c_4 => ?_)
        · skip
          refine lv_iinc (v := (nI (j + 1))) (lv' := [(2, .int (nI (j + 1))), (1, .int (zws pt pl j)), (0, .ref (h 0))]) hx hb dX4_weakest_42 hl (k := 0) rfl (nI_add j 1) (by decide) rfl (fun ls hl => ?_)
          refine lv_goto (tgt := 4) hx hb dX4_weakest_45 (by decide) ?_
          exact ih (j + 1, (zws pt pl j)) (⟨by omega, ((if_neg (znle0 c_2)).trans (if_neg (fun hh => hh.elim c_3 (Int32.not_lt.mpr c_4)))).symm⟩) (by omega) _ _ _ hP hD hS (lv_sub hl [0, 1, 2] rfl)
        · skip
          refine lv_iload_n hx hb dX4_weakest_40 rfl (lv_at hl 0 rfl) ?_
          refine lv_istore_n (lv' := [(1, .int (nI j)), (2, .int (nI j)), (0, .ref (h 0))]) hx hb dX4_weakest_41 rfl hl (by decide) rfl (fun ls hl => ?_)
          refine lv_iinc (v := (nI (j + 1))) (lv' := [(2, .int (nI (j + 1))), (1, .int (nI j)), (0, .ref (h 0))]) hx hb dX4_weakest_42 hl (k := 1) rfl (nI_add j 1) (by decide) rfl (fun ls hl => ?_)
          refine lv_goto (tgt := 4) hx hb dX4_weakest_45 (by decide) ?_
          exact ih (j + 1, (nI j)) (⟨by omega, ((if_neg (znle0 c_2)).trans (if_pos (Or.inr (Int32.not_le.mp c_4)))).symm⟩) (by omega) _ _ _ hP hD hS (lv_sub hl [0, 1, 2] rfl)

set_option maxHeartbeats 4000000 in
set_option maxRecDepth 100000 in
theorem c_X4_mistakes {l : Launch} {B kr kp : Nat} {D : va_G} {cI cJ cZ : ClassId} {h : Nat → Nat} {R : va_W} {n : Nat} {L : Nat → Int64} {kt : Nat → Int32} {km : Nat → Int32} {kl : Nat → Int32} {pt : Nat → Int32} {pm : Nat → Int32} {pl : Nat → Int32} {nu : Nat → Int32} {le : Nat → Int32} {ow : Nat → Int32} {fo : Nat → Int32} {run : Bool} {wc : Nat} {lc : Nat} {tr : Nat} {cl : Nat} {tm : Nat} {ms : Nat} {yl : Nat → Int32} {yc : Nat → Int32} {yt : Nat → Int32} {co : Nat} {pa : Int32} {su : Nat} {sc : Nat} {mc : Nat → Int32} {k : Nat}   (h1 : 1 ≤ k) (h4 : k ≤ 4) : Met l yX4_mistakes wsX4_mistakes ({ frames := 1, cells := 0, slots := 0, locals := 21 }) (zPc B kr kp D (zTy cI cJ cZ) (zWT cI cJ h (n, L) (kt, km, kl) (pt, pm, pl) (nu, le, ow, fo, run, wc, lc, tr, cl, tm, ms) (yl, yc, yt, co, pa, su, sc) mc ++ R) [.ref (h 0), .int (nI k)]) (zQi B D (zWT cI cJ h (n, L) (kt, km, kl) (pt, pm, pl) (nu, le, ow, fo, run, wc, lc, tr, cl, tm, ms) (yl, yc, yt, co, pa, su, sc) mc ++ R) (mc k)) 0 0 (zAb B) := by
  refine Met.ofW (cc := cX4_mistakes) (maxL := 2) (ret := (some .int)) (by decide) rfl ?_
  intro p e s m args below meth c s₁ B0 hml hv
  obtain ⟨rfl, hP, hD, hK, hE, hB⟩ := hv
  have hx := B0.exec
  have hb := B0.bytes
  have hr := B0.returns
  have hts := atoms_spec (ws := wsX4_mistakes) B0.pre
  have hown : s.vm.findClass RX4 = some m.cls := findClass_of_methodNamed B0.named
  have hlocks := B0.notSynchronized
  have hA : ∀ q : Nat, s.heap.size ≤ q → zAb B q := fun q hq => Nat.le_trans hB hq
  have hS : va_S (zAb B) s.heap s.heap [] := va_S.rf
  have hl := lv_entry ([.ref (h 0), .int (nI k)]) (n := 2) (Nat.le_of_ble_eq_true rfl)
  rw [lg_entry_eq]
  generalize (lg_sl ([.ref (h 0), .int (nI k)]) ++ List.replicate (2 - (lg_sl ([.ref (h 0), .int (nI k)])).length) Slot.unset).toArray = ls at hl ⊢
  have hl : lv_has ls 2 [(0, .ref (h 0)), (1, .int (nI k))] := hl
  have hinX4 : ∀ w ∈ wsX40, w ∈ wsX4_mistakes := fun _ h => List.mem_cons_of_mem _ (List.mem_append_left _ (List.mem_append_right _ h))
  have hP : va_P D vwCl (zWT cI cJ h (n, L) (kt, km, kl) (pt, pm, pl) (nu, le, ow, fo, run, wc, lc, tr, cl, tm, ms) (yl, yc, yt, co, pa, su, sc) mc ++ R) s.heap := hP
  have hD : va_D (zAb B) (zWT cI cJ h (n, L) (kt, km, kl) (pt, pm, pl) (nu, le, ow, fo, run, wc, lc, tr, cl, tm, ms) (yl, yc, yt, co, pa, su, sc) mc ++ R) := hD
  refine lv_iload_n hx hb dX4_mistakes_0 rfl (lv_at hl 1 rfl) ?_
  refine lv_iconst (v := 1) hx hb dX4_mistakes_1 (by decide) ?_
  refine lv_icmp_lt (tgt := 10) hx hb dX4_mistakes_2 (by decide) (fun c_1 => ?_) (fun c_1 => ?_)
  · skip
    have c_1 : k < 1 := (nI_ltI (a := k) (b := 1) (by omega) (by omega)).mp c_1
    exfalso; first | omega | (revert c_1; decide) | (exact absurd rfl c_1) | simp_all
  · skip
    have c_1 : ¬ k < 1 := fun hh => c_1 ((nI_ltI (a := k) (b := 1) (by omega) (by omega)).mpr hh)
    refine lv_iload_n hx hb dX4_mistakes_5 rfl (lv_at hl 1 rfl) ?_
    refine lv_iconst (v := 4) hx hb dX4_mistakes_6 (by decide) ?_
    refine lv_icmp_le (tgt := 20) hx hb dX4_mistakes_7 (by decide) (fun c_2 => ?_) (fun c_2 => ?_)
    · skip
      have c_2 : k ≤ 4 := (nI_leI (a := k) (b := 4) (by omega) (by omega)).mp c_2
      refine lv_aload_n hx hb dX4_mistakes_20 rfl (lv_at hl 0 rfl) ?_
      refine va_get (ci := 4) (v := .ref (h 20)) (C := RX4) (T := TX4) (N := 6) hx hb hts hinX4 hown hK hP 0 rfl rfl 5 (by decide) (hts (.fieldLink RX4 42 "TypingTutor" "mistakeCounts" "[I") (List.mem_of_getElem? (i := 3) rfl)) (fun _ h9 => h9) rfl dX4_mistakes_21 ?_
      refine lv_iload_n hx hb dX4_mistakes_24 rfl (lv_at hl 1 rfl) ?_
      refine zci (zrS (As := [.ref (h 20), .int (nI k)]) (rest := []) ⟨hx, hb, hml, hown, hts⟩ (zS hP hD hK hE hB hS) (c_X4_read (q0 := 20) rfl (by omega)) (va_cwS 2 hts gX4_mistakes_X4_read rfl rfl rfl hds_X4_read ⟨Nat.le_of_ble_eq_true rfl, Nat.le_of_ble_eq_true rfl⟩) rfl rfl hl.1 rfl (lv_room (Nat.le_of_ble_eq_true rfl)) dX4_mistakes_25 ⟨Nat.le_of_ble_eq_true rfl, Nat.le_of_ble_eq_true rfl⟩) hS (fun H locs hP hD hS => ?_)
      have hP : va_P D vwCl (zWT cI cJ h (n, L) (kt, km, kl) (pt, pm, pl) (nu, le, ow, fo, run, wc, lc, tr, cl, tm, ms) (yl, yc, yt, co, pa, su, sc) mc ++ R) _ := hP
      have hD : va_D (zAb B) (zWT cI cJ h (n, L) (kt, km, kl) (pt, pm, pl) (nu, le, ow, fo, run, wc, lc, tr, cl, tm, ms) (yl, yc, yt, co, pa, su, sc) mc ++ R) := hD
      rw [show (zrd 5 mc (nI k)) = (mc k) from (zrd_in (n := 5) (k := k) (f := mc) (by omega) (by omega))]
      exact W.iret (v := (mc k)) hx hb hr (fun t ht hW => ⟨⟨_, (), rfl, rfl, by rw [ht]; exact hP, hD⟩, hS.F ht⟩) hS.2.2 dX4_mistakes_28
    · skip
      have c_2 : ¬ k ≤ 4 := fun hh => c_2 ((nI_leI (a := k) (b := 4) (by omega) (by omega)).mpr hh)
      exfalso; first | omega | (revert c_2; decide) | (exact absurd rfl c_2) | simp_all

set_option maxHeartbeats 4000000 in
set_option maxRecDepth 100000 in
theorem c_X4_mistakes_x {l : Launch} {B kr kp : Nat} {D : va_G} {cI cJ cZ : ClassId} {h : Nat → Nat} {R : va_W} {n : Nat} {L : Nat → Int64} {kt : Nat → Int32} {km : Nat → Int32} {kl : Nat → Int32} {pt : Nat → Int32} {pm : Nat → Int32} {pl : Nat → Int32} {nu : Nat → Int32} {le : Nat → Int32} {ow : Nat → Int32} {fo : Nat → Int32} {run : Bool} {wc : Nat} {lc : Nat} {tr : Nat} {cl : Nat} {tm : Nat} {ms : Nat} {yl : Nat → Int32} {yc : Nat → Int32} {yt : Nat → Int32} {co : Nat} {pa : Int32} {su : Nat} {sc : Nat} {mc : Nat → Int32} {i : Int32}   (hls : l.stackTraces = false) (hi : i < 1 ∨ ¬ i ≤ 4) : vx_Met l yX4_mistakes wsX4_mistakes ({ frames := 6, cells := 1, slots := 6, locals := 82 }) (zPc B kr kp D (zTy cI cJ cZ) (zWT cI cJ h (n, L) (kt, km, kl) (pt, pm, pl) (nu, le, ow, fo, run, wc, lc, tr, cl, tm, ms) (yl, yc, yt, co, pa, su, sc) mc ++ R) [.ref (h 0), .int i]) (zQxi B D (zWT cI cJ h (n, L) (kt, km, kl) (pt, pm, pl) (nu, le, ow, fo, run, wc, lc, tr, cl, tm, ms) (yl, yc, yt, co, pa, su, sc) mc ++ R)) (zXC "java/lang/IndexOutOfBoundsException" B D (zWT cI cJ h (n, L) (kt, km, kl) (pt, pm, pl) (nu, le, ow, fo, run, wc, lc, tr, cl, tm, ms) (yl, yc, yt, co, pa, su, sc) mc ++ R)) 1 6 (zAb B) := by
  refine vx_ofW (cc := cX4_mistakes) (maxL := 2) (ret := (some .int)) (by decide) rfl ?_
  intro p e s m args below meth c s₁ B0 hml ht9 hv
  obtain ⟨rfl, hP, hD, hK, hE, hB⟩ := hv
  have hx := B0.exec
  have hb := B0.bytes
  have hr := B0.returns
  have hts := atoms_spec (ws := wsX4_mistakes) B0.pre
  have hown : s.vm.findClass RX4 = some m.cls := findClass_of_methodNamed B0.named
  have hlocks := B0.notSynchronized
  have hA : ∀ q : Nat, s.heap.size ≤ q → zAb B q := fun q hq => Nat.le_trans hB hq
  have hS : va_S (zAb B) s.heap s.heap [] := va_S.rf
  have hl := lv_entry ([.ref (h 0), .int i]) (n := 2) (Nat.le_of_ble_eq_true rfl)
  rw [lg_entry_eq]
  generalize (lg_sl ([.ref (h 0), .int i]) ++ List.replicate (2 - (lg_sl ([.ref (h 0), .int i])).length) Slot.unset).toArray = ls at hl ⊢
  have hl : lv_has ls 2 [(0, .ref (h 0)), (1, .int i)] := hl
  have hP : va_P D vwCl (zWT cI cJ h (n, L) (kt, km, kl) (pt, pm, pl) (nu, le, ow, fo, run, wc, lc, tr, cl, tm, ms) (yl, yc, yt, co, pa, su, sc) mc ++ R) s.heap := hP
  have hD : va_D (zAb B) (zWT cI cJ h (n, L) (kt, km, kl) (pt, pm, pl) (nu, le, ow, fo, run, wc, lc, tr, cl, tm, ms) (yl, yc, yt, co, pa, su, sc) mc ++ R) := hD
  refine lv_iload_n hx hb dX4_mistakes_0 rfl (lv_at hl 1 rfl) ?_
  refine lv_iconst (v := 1) hx hb dX4_mistakes_1 (by decide) ?_
  refine lv_icmp_lt (tgt := 10) hx hb dX4_mistakes_2 (by decide) (fun c_1 => ?_) (fun c_1 => ?_)
  · skip
    exact zthrow hx hb hls hown hE hP hD hS (hl.1.trans hml.symm) ht9 hlocks (by decide +kernel) (List.mem_of_getElem? (i := 12) rfl) (by decide +kernel) (hts (.classLink RX4 81 "java/lang/IndexOutOfBoundsException") (List.mem_of_getElem? (i := 1) rfl)) (hts (.initialized "java/lang/IndexOutOfBoundsException") (List.mem_of_getElem? (i := 2) rfl)) (fun w h9 => hts w (List.mem_cons_of_mem _ (List.mem_append_right _ h9))) (by decide +kernel) (by decide +kernel) dX4_mistakes_10 dX4_mistakes_13 dX4_mistakes_14 dX4_mistakes_16 dX4_mistakes_19 ⟨Nat.le_of_ble_eq_true rfl, Nat.le_of_ble_eq_true rfl, Nat.le_of_ble_eq_true rfl, Nat.le_of_ble_eq_true rfl⟩
  · skip
    refine lv_iload_n hx hb dX4_mistakes_5 rfl (lv_at hl 1 rfl) ?_
    refine lv_iconst (v := 4) hx hb dX4_mistakes_6 (by decide) ?_
    refine lv_icmp_le (tgt := 20) hx hb dX4_mistakes_7 (by decide) (fun c_2 => ?_) (fun c_2 => ?_)
    · skip
      exact hi.elim (fun q => absurd q c_1) (fun q => absurd c_2 q)
    · skip
      exact zthrow hx hb hls hown hE hP hD hS (hl.1.trans hml.symm) ht9 hlocks (by decide +kernel) (List.mem_of_getElem? (i := 12) rfl) (by decide +kernel) (hts (.classLink RX4 81 "java/lang/IndexOutOfBoundsException") (List.mem_of_getElem? (i := 1) rfl)) (hts (.initialized "java/lang/IndexOutOfBoundsException") (List.mem_of_getElem? (i := 2) rfl)) (fun w h9 => hts w (List.mem_cons_of_mem _ (List.mem_append_right _ h9))) (by decide +kernel) (by decide +kernel) dX4_mistakes_10 dX4_mistakes_13 dX4_mistakes_14 dX4_mistakes_16 dX4_mistakes_19 ⟨Nat.le_of_ble_eq_true rfl, Nat.le_of_ble_eq_true rfl, Nat.le_of_ble_eq_true rfl, Nat.le_of_ble_eq_true rfl⟩

set_option maxHeartbeats 4000000 in
set_option maxRecDepth 100000 in
theorem c_X4_lessons {l : Launch} {B kr kp : Nat} {D : va_G} {cI cJ cZ : ClassId} {h : Nat → Nat} {R : va_W} {n : Nat} {L : Nat → Int64} {kt : Nat → Int32} {km : Nat → Int32} {kl : Nat → Int32} {pt : Nat → Int32} {pm : Nat → Int32} {pl : Nat → Int32} {nu : Nat → Int32} {le : Nat → Int32} {ow : Nat → Int32} {fo : Nat → Int32} {run : Bool} {wc : Nat} {lc : Nat} {tr : Nat} {cl : Nat} {tm : Nat} {ms : Nat} {yl : Nat → Int32} {yc : Nat → Int32} {yt : Nat → Int32} {co : Nat} {pa : Int32} {su : Nat} {sc : Nat} {mc : Nat → Int32}     : Met l yX4_lessons wsX4_lessons ({ frames := 1, cells := 0, slots := 0, locals := 20 }) (zPc B kr kp D (zTy cI cJ cZ) (zWT cI cJ h (n, L) (kt, km, kl) (pt, pm, pl) (nu, le, ow, fo, run, wc, lc, tr, cl, tm, ms) (yl, yc, yt, co, pa, su, sc) mc ++ R) [.ref (h 0)]) (zQi B D (zWT cI cJ h (n, L) (kt, km, kl) (pt, pm, pl) (nu, le, ow, fo, run, wc, lc, tr, cl, tm, ms) (yl, yc, yt, co, pa, su, sc) mc ++ R) (nI co)) 0 0 (zAb B) := by
  refine Met.ofW (cc := cX4_lessons) (maxL := 1) (ret := (some .int)) (by decide) rfl ?_
  intro p e s m args below meth c s₁ B0 hml hv
  obtain ⟨rfl, hP, hD, hK, hE, hB⟩ := hv
  have hx := B0.exec
  have hb := B0.bytes
  have hr := B0.returns
  have hts := atoms_spec (ws := wsX4_lessons) B0.pre
  have hown : s.vm.findClass RX4 = some m.cls := findClass_of_methodNamed B0.named
  have hlocks := B0.notSynchronized
  have hA : ∀ q : Nat, s.heap.size ≤ q → zAb B q := fun q hq => Nat.le_trans hB hq
  have hS : va_S (zAb B) s.heap s.heap [] := va_S.rf
  have hl := lv_entry ([.ref (h 0)]) (n := 1) (Nat.le_of_ble_eq_true rfl)
  rw [lg_entry_eq]
  generalize (lg_sl ([.ref (h 0)]) ++ List.replicate (1 - (lg_sl ([.ref (h 0)])).length) Slot.unset).toArray = ls at hl ⊢
  have hl : lv_has ls 1 [(0, .ref (h 0))] := hl
  have hinX4 : ∀ w ∈ wsX40, w ∈ wsX4_lessons := fun _ h => List.mem_cons_of_mem _ (List.mem_append_left _ (List.mem_append_right _ h))
  have hP : va_P D vwCl (zWT cI cJ h (n, L) (kt, km, kl) (pt, pm, pl) (nu, le, ow, fo, run, wc, lc, tr, cl, tm, ms) (yl, yc, yt, co, pa, su, sc) mc ++ R) s.heap := hP
  have hD : va_D (zAb B) (zWT cI cJ h (n, L) (kt, km, kl) (pt, pm, pl) (nu, le, ow, fo, run, wc, lc, tr, cl, tm, ms) (yl, yc, yt, co, pa, su, sc) mc ++ R) := hD
  refine lv_aload_n hx hb dX4_lessons_0 rfl (lv_at hl 0 rfl) ?_
  refine va_get (ci := 4) (v := .ref (h 16)) (C := RX4) (T := TX4) (N := 6) hx hb hts hinX4 hown hK hP 0 rfl rfl 4 (by decide) (hts (.fieldLink RX4 38 "TypingTutor" "past" "LTypingTutor$History;") (List.mem_of_getElem? (i := 1) rfl)) (fun _ h9 => h9) rfl dX4_lessons_1 ?_
  refine zci (zrV (As := []) (rest := []) ⟨hx, hb, hml, hown, hts⟩ (zV 16 hP hD hK hE hB hS rfl rfl) (c_X0_size  ) (cwV 0 hts gX4_lessons_X0_size rfl rfl rfl hdv_X0_size ⟨Nat.le_of_ble_eq_true rfl, Nat.le_of_ble_eq_true rfl⟩) rfl rfl hl.1 rfl (lv_room (Nat.le_of_ble_eq_true rfl)) dX4_lessons_4 ⟨Nat.le_of_ble_eq_true rfl, Nat.le_of_ble_eq_true rfl⟩) hS (fun H locs hP hD hS => ?_)
  have hP : va_P D vwCl (zWT cI cJ h (n, L) (kt, km, kl) (pt, pm, pl) (nu, le, ow, fo, run, wc, lc, tr, cl, tm, ms) (yl, yc, yt, co, pa, su, sc) mc ++ R) _ := hP
  have hD : va_D (zAb B) (zWT cI cJ h (n, L) (kt, km, kl) (pt, pm, pl) (nu, le, ow, fo, run, wc, lc, tr, cl, tm, ms) (yl, yc, yt, co, pa, su, sc) mc ++ R) := hD
  exact W.iret (v := (nI co)) hx hb hr (fun t ht hW => ⟨⟨_, (), rfl, rfl, by rw [ht]; exact hP, hD⟩, hS.F ht⟩) hS.2.2 dX4_lessons_7

set_option maxHeartbeats 4000000 in
set_option maxRecDepth 100000 in
theorem c_X4_pace {l : Launch} {B kr kp : Nat} {D : va_G} {cI cJ cZ : ClassId} {h : Nat → Nat} {R : va_W} {n : Nat} {L : Nat → Int64} {kt : Nat → Int32} {km : Nat → Int32} {kl : Nat → Int32} {pt : Nat → Int32} {pm : Nat → Int32} {pl : Nat → Int32} {nu : Nat → Int32} {le : Nat → Int32} {ow : Nat → Int32} {fo : Nat → Int32} {run : Bool} {wc : Nat} {lc : Nat} {tr : Nat} {cl : Nat} {tm : Nat} {ms : Nat} {yl : Nat → Int32} {yc : Nat → Int32} {yt : Nat → Int32} {co : Nat} {pa : Int32} {su : Nat} {sc : Nat} {mc : Nat → Int32}     : Met l yX4_pace wsX4_pace ({ frames := 1, cells := 0, slots := 0, locals := 20 }) (zPc B kr kp D (zTy cI cJ cZ) (zWT cI cJ h (n, L) (kt, km, kl) (pt, pm, pl) (nu, le, ow, fo, run, wc, lc, tr, cl, tm, ms) (yl, yc, yt, co, pa, su, sc) mc ++ R) [.ref (h 0)]) (zQi B D (zWT cI cJ h (n, L) (kt, km, kl) (pt, pm, pl) (nu, le, ow, fo, run, wc, lc, tr, cl, tm, ms) (yl, yc, yt, co, pa, su, sc) mc ++ R) pa) 0 0 (zAb B) := by
  refine Met.ofW (cc := cX4_pace) (maxL := 1) (ret := (some .int)) (by decide) rfl ?_
  intro p e s m args below meth c s₁ B0 hml hv
  obtain ⟨rfl, hP, hD, hK, hE, hB⟩ := hv
  have hx := B0.exec
  have hb := B0.bytes
  have hr := B0.returns
  have hts := atoms_spec (ws := wsX4_pace) B0.pre
  have hown : s.vm.findClass RX4 = some m.cls := findClass_of_methodNamed B0.named
  have hlocks := B0.notSynchronized
  have hA : ∀ q : Nat, s.heap.size ≤ q → zAb B q := fun q hq => Nat.le_trans hB hq
  have hS : va_S (zAb B) s.heap s.heap [] := va_S.rf
  have hl := lv_entry ([.ref (h 0)]) (n := 1) (Nat.le_of_ble_eq_true rfl)
  rw [lg_entry_eq]
  generalize (lg_sl ([.ref (h 0)]) ++ List.replicate (1 - (lg_sl ([.ref (h 0)])).length) Slot.unset).toArray = ls at hl ⊢
  have hl : lv_has ls 1 [(0, .ref (h 0))] := hl
  have hinX4 : ∀ w ∈ wsX40, w ∈ wsX4_pace := fun _ h => List.mem_cons_of_mem _ (List.mem_append_left _ (List.mem_append_right _ h))
  have hP : va_P D vwCl (zWT cI cJ h (n, L) (kt, km, kl) (pt, pm, pl) (nu, le, ow, fo, run, wc, lc, tr, cl, tm, ms) (yl, yc, yt, co, pa, su, sc) mc ++ R) s.heap := hP
  have hD : va_D (zAb B) (zWT cI cJ h (n, L) (kt, km, kl) (pt, pm, pl) (nu, le, ow, fo, run, wc, lc, tr, cl, tm, ms) (yl, yc, yt, co, pa, su, sc) mc ++ R) := hD
  refine lv_aload_n hx hb dX4_pace_0 rfl (lv_at hl 0 rfl) ?_
  refine va_get (ci := 4) (v := .ref (h 16)) (C := RX4) (T := TX4) (N := 6) hx hb hts hinX4 hown hK hP 0 rfl rfl 4 (by decide) (hts (.fieldLink RX4 38 "TypingTutor" "past" "LTypingTutor$History;") (List.mem_of_getElem? (i := 1) rfl)) (fun _ h9 => h9) rfl dX4_pace_1 ?_
  refine zci (zrV (As := []) (rest := []) ⟨hx, hb, hml, hown, hts⟩ (zV 16 hP hD hK hE hB hS rfl rfl) (c_X0_advisedPace  ) (cwV 0 hts gX4_pace_X0_advisedPace rfl rfl rfl hdv_X0_advisedPace ⟨Nat.le_of_ble_eq_true rfl, Nat.le_of_ble_eq_true rfl⟩) rfl rfl hl.1 rfl (lv_room (Nat.le_of_ble_eq_true rfl)) dX4_pace_4 ⟨Nat.le_of_ble_eq_true rfl, Nat.le_of_ble_eq_true rfl⟩) hS (fun H locs hP hD hS => ?_)
  have hP : va_P D vwCl (zWT cI cJ h (n, L) (kt, km, kl) (pt, pm, pl) (nu, le, ow, fo, run, wc, lc, tr, cl, tm, ms) (yl, yc, yt, co, pa, su, sc) mc ++ R) _ := hP
  have hD : va_D (zAb B) (zWT cI cJ h (n, L) (kt, km, kl) (pt, pm, pl) (nu, le, ow, fo, run, wc, lc, tr, cl, tm, ms) (yl, yc, yt, co, pa, su, sc) mc ++ R) := hD
  exact W.iret (v := pa) hx hb hr (fun t ht hW => ⟨⟨_, (), rfl, rfl, by rw [ht]; exact hP, hD⟩, hS.F ht⟩) hS.2.2 dX4_pace_7

set_option maxHeartbeats 4000000 in
set_option maxRecDepth 100000 in
theorem c_X4_lesson_0 {l : Launch} {B kr kp : Nat} {D : va_G} {cI cJ cZ : ClassId} {h : Nat → Nat} {R : va_W} {n : Nat} {L : Nat → Int64} {kt : Nat → Int32} {km : Nat → Int32} {kl : Nat → Int32} {pt : Nat → Int32} {pm : Nat → Int32} {pl : Nat → Int32} {nu : Nat → Int32} {le : Nat → Int32} {ow : Nat → Int32} {fo : Nat → Int32} {run : Bool} {wc : Nat} {lc : Nat} {tr : Nat} {cl : Nat} {tm : Nat} {ms : Nat} {yl : Nat → Int32} {yc : Nat → Int32} {yt : Nat → Int32} {co : Nat} {pa : Int32} {su : Nat} {sc : Nat} {mc : Nat → Int32} {k : Nat}   (hk : k < co) (hco : co ≤ 256) : Met l yX4_lesson wsX4_lesson ({ frames := 2, cells := 0, slots := 0, locals := 43 }) (zPc B kr kp D (zTy cI cJ cZ) (zWT cI cJ h (n, L) (kt, km, kl) (pt, pm, pl) (nu, le, ow, fo, run, wc, lc, tr, cl, tm, ms) (yl, yc, yt, co, pa, su, sc) mc ++ R) [.ref (h 0), .int (nI k), .int 0]) (zQi B D (zWT cI cJ h (n, L) (kt, km, kl) (pt, pm, pl) (nu, le, ow, fo, run, wc, lc, tr, cl, tm, ms) (yl, yc, yt, co, pa, su, sc) mc ++ R) (yl k)) 0 0 (zAb B) := by
  refine Met.ofW (cc := cX4_lesson) (maxL := 3) (ret := (some .int)) (by decide) rfl ?_
  intro p e s m args below meth c s₁ B0 hml hv
  obtain ⟨rfl, hP, hD, hK, hE, hB⟩ := hv
  have hx := B0.exec
  have hb := B0.bytes
  have hr := B0.returns
  have hts := atoms_spec (ws := wsX4_lesson) B0.pre
  have hown : s.vm.findClass RX4 = some m.cls := findClass_of_methodNamed B0.named
  have hlocks := B0.notSynchronized
  have hA : ∀ q : Nat, s.heap.size ≤ q → zAb B q := fun q hq => Nat.le_trans hB hq
  have hS : va_S (zAb B) s.heap s.heap [] := va_S.rf
  have hl := lv_entry ([.ref (h 0), .int (nI k), .int 0]) (n := 3) (Nat.le_of_ble_eq_true rfl)
  rw [lg_entry_eq]
  generalize (lg_sl ([.ref (h 0), .int (nI k), .int 0]) ++ List.replicate (3 - (lg_sl ([.ref (h 0), .int (nI k), .int 0])).length) Slot.unset).toArray = ls at hl ⊢
  have hl : lv_has ls 3 [(0, .ref (h 0)), (1, .int (nI k)), (2, .int 0)] := hl
  have hinX4 : ∀ w ∈ wsX40, w ∈ wsX4_lesson := fun _ h => List.mem_cons_of_mem _ (List.mem_append_left _ (List.mem_append_left _ (List.mem_append_right _ h)))
  have hP : va_P D vwCl (zWT cI cJ h (n, L) (kt, km, kl) (pt, pm, pl) (nu, le, ow, fo, run, wc, lc, tr, cl, tm, ms) (yl, yc, yt, co, pa, su, sc) mc ++ R) s.heap := hP
  have hD : va_D (zAb B) (zWT cI cJ h (n, L) (kt, km, kl) (pt, pm, pl) (nu, le, ow, fo, run, wc, lc, tr, cl, tm, ms) (yl, yc, yt, co, pa, su, sc) mc ++ R) := hD
  refine lv_iload_n hx hb dX4_lesson_0 rfl (lv_at hl 1 rfl) ?_
  refine lv_if_lt (tgt := 24) hx hb dX4_lesson_1 (by decide) (fun c_1 => ?_) (fun c_1 => ?_)
  · skip
    have c_1 : k < 0 := (nI_ltI (a := k) (b := 0) (by omega) (by omega)).mp c_1
    exfalso; first | omega | (revert c_1; decide) | (exact absurd rfl c_1) | simp_all
  · skip
    have c_1 : ¬ k < 0 := fun hh => c_1 ((nI_ltI (a := k) (b := 0) (by omega) (by omega)).mpr hh)
    refine lv_iload_n hx hb dX4_lesson_4 rfl (lv_at hl 1 rfl) ?_
    refine lv_aload_n hx hb dX4_lesson_5 rfl (lv_at hl 0 rfl) ?_
    refine va_get (ci := 4) (v := .ref (h 16)) (C := RX4) (T := TX4) (N := 6) hx hb hts hinX4 hown hK hP 0 rfl rfl 4 (by decide) (hts (.fieldLink RX4 38 "TypingTutor" "past" "LTypingTutor$History;") (List.mem_of_getElem? (i := 3) rfl)) (fun _ h9 => h9) rfl dX4_lesson_6 ?_
    refine zci (zrV (As := []) (rest := [.int (nI k)]) ⟨hx, hb, hml, hown, hts⟩ (zV 16 hP hD hK hE hB hS rfl rfl) (c_X0_size  ) (cwV 0 hts gX4_lesson_X0_size rfl rfl rfl hdv_X0_size ⟨Nat.le_of_ble_eq_true rfl, Nat.le_of_ble_eq_true rfl⟩) rfl rfl hl.1 rfl (lv_room (Nat.le_of_ble_eq_true rfl)) dX4_lesson_9 ⟨Nat.le_of_ble_eq_true rfl, Nat.le_of_ble_eq_true rfl⟩) hS (fun H locs hP hD hS => ?_)
    have hP : va_P D vwCl (zWT cI cJ h (n, L) (kt, km, kl) (pt, pm, pl) (nu, le, ow, fo, run, wc, lc, tr, cl, tm, ms) (yl, yc, yt, co, pa, su, sc) mc ++ R) _ := hP
    have hD : va_D (zAb B) (zWT cI cJ h (n, L) (kt, km, kl) (pt, pm, pl) (nu, le, ow, fo, run, wc, lc, tr, cl, tm, ms) (yl, yc, yt, co, pa, su, sc) mc ++ R) := hD
    refine lv_icmp_ge (tgt := 24) hx hb dX4_lesson_12 (by decide) (fun c_2 => ?_) (fun c_2 => ?_)
    · skip
      have c_2 : co ≤ k := (nI_leI (a := co) (b := k) (by omega) (by omega)).mp c_2
      exfalso; first | omega | (revert c_2; decide) | (exact absurd rfl c_2) | simp_all
    · skip
      have c_2 : ¬ co ≤ k := fun hh => c_2 ((nI_leI (a := co) (b := k) (by omega) (by omega)).mpr hh)
      refine lv_iload_n hx hb dX4_lesson_15 rfl (lv_at hl 2 rfl) ?_
      refine lv_if_lt (tgt := 24) hx hb dX4_lesson_16 (by decide) (fun c_3 => ?_) (fun c_3 => ?_)
      · skip
        exfalso; first | omega | (revert c_3; decide) | (exact absurd rfl c_3) | simp_all
      · skip
        refine lv_iload_n hx hb dX4_lesson_19 rfl (lv_at hl 2 rfl) ?_
        refine lv_iconst (v := 3) hx hb dX4_lesson_20 (by decide) ?_
        refine lv_icmp_le (tgt := 34) hx hb dX4_lesson_21 (by decide) (fun c_4 => ?_) (fun c_4 => ?_)
        · skip
          refine lv_aload_n hx hb dX4_lesson_34 rfl (lv_at hl 0 rfl) ?_
          refine va_get (ci := 4) (v := .ref (h 16)) (C := RX4) (T := TX4) (N := 6) hx hb hts hinX4 hown hK hP 0 rfl rfl 4 (by decide) (hts (.fieldLink RX4 38 "TypingTutor" "past" "LTypingTutor$History;") (List.mem_of_getElem? (i := 3) rfl)) (fun _ h9 => h9) rfl dX4_lesson_35 ?_
          refine lv_iload_n hx hb dX4_lesson_38 rfl (lv_at hl 1 rfl) ?_
          refine lv_iload_n hx hb dX4_lesson_39 rfl (lv_at hl 2 rfl) ?_
          refine zci (zrV (As := [.int (nI k), .int 0]) (rest := []) ⟨hx, hb, hml, hown, hts⟩ (zV 16 hP hD hK hE hB hS rfl rfl) (c_X0_tell_0 (k := k) (by omega)) (cwV 2 hts gX4_lesson_X0_tell rfl rfl rfl hdv_X0_tell ⟨Nat.le_of_ble_eq_true rfl, Nat.le_of_ble_eq_true rfl⟩) rfl rfl hl.1 rfl (lv_room (Nat.le_of_ble_eq_true rfl)) dX4_lesson_40 ⟨Nat.le_of_ble_eq_true rfl, Nat.le_of_ble_eq_true rfl⟩) hS (fun H locs hP hD hS => ?_)
          have hP : va_P D vwCl (zWT cI cJ h (n, L) (kt, km, kl) (pt, pm, pl) (nu, le, ow, fo, run, wc, lc, tr, cl, tm, ms) (yl, yc, yt, co, pa, su, sc) mc ++ R) _ := hP
          have hD : va_D (zAb B) (zWT cI cJ h (n, L) (kt, km, kl) (pt, pm, pl) (nu, le, ow, fo, run, wc, lc, tr, cl, tm, ms) (yl, yc, yt, co, pa, su, sc) mc ++ R) := hD
          exact W.iret (v := (yl k)) hx hb hr (fun t ht hW => ⟨⟨_, (), rfl, rfl, by rw [ht]; exact hP, hD⟩, hS.F ht⟩) hS.2.2 dX4_lesson_43
        · skip
          exfalso; first | omega | (revert c_4; decide) | (exact absurd rfl c_4) | simp_all

set_option maxHeartbeats 4000000 in
set_option maxRecDepth 100000 in
theorem c_X4_lesson_1 {l : Launch} {B kr kp : Nat} {D : va_G} {cI cJ cZ : ClassId} {h : Nat → Nat} {R : va_W} {n : Nat} {L : Nat → Int64} {kt : Nat → Int32} {km : Nat → Int32} {kl : Nat → Int32} {pt : Nat → Int32} {pm : Nat → Int32} {pl : Nat → Int32} {nu : Nat → Int32} {le : Nat → Int32} {ow : Nat → Int32} {fo : Nat → Int32} {run : Bool} {wc : Nat} {lc : Nat} {tr : Nat} {cl : Nat} {tm : Nat} {ms : Nat} {yl : Nat → Int32} {yc : Nat → Int32} {yt : Nat → Int32} {co : Nat} {pa : Int32} {su : Nat} {sc : Nat} {mc : Nat → Int32} {k : Nat}   (hk : k < co) (hco : co ≤ 256) : Met l yX4_lesson wsX4_lesson ({ frames := 2, cells := 0, slots := 0, locals := 43 }) (zPc B kr kp D (zTy cI cJ cZ) (zWT cI cJ h (n, L) (kt, km, kl) (pt, pm, pl) (nu, le, ow, fo, run, wc, lc, tr, cl, tm, ms) (yl, yc, yt, co, pa, su, sc) mc ++ R) [.ref (h 0), .int (nI k), .int 1]) (zQi B D (zWT cI cJ h (n, L) (kt, km, kl) (pt, pm, pl) (nu, le, ow, fo, run, wc, lc, tr, cl, tm, ms) (yl, yc, yt, co, pa, su, sc) mc ++ R) (yc k)) 0 0 (zAb B) := by
  refine Met.ofW (cc := cX4_lesson) (maxL := 3) (ret := (some .int)) (by decide) rfl ?_
  intro p e s m args below meth c s₁ B0 hml hv
  obtain ⟨rfl, hP, hD, hK, hE, hB⟩ := hv
  have hx := B0.exec
  have hb := B0.bytes
  have hr := B0.returns
  have hts := atoms_spec (ws := wsX4_lesson) B0.pre
  have hown : s.vm.findClass RX4 = some m.cls := findClass_of_methodNamed B0.named
  have hlocks := B0.notSynchronized
  have hA : ∀ q : Nat, s.heap.size ≤ q → zAb B q := fun q hq => Nat.le_trans hB hq
  have hS : va_S (zAb B) s.heap s.heap [] := va_S.rf
  have hl := lv_entry ([.ref (h 0), .int (nI k), .int 1]) (n := 3) (Nat.le_of_ble_eq_true rfl)
  rw [lg_entry_eq]
  generalize (lg_sl ([.ref (h 0), .int (nI k), .int 1]) ++ List.replicate (3 - (lg_sl ([.ref (h 0), .int (nI k), .int 1])).length) Slot.unset).toArray = ls at hl ⊢
  have hl : lv_has ls 3 [(0, .ref (h 0)), (1, .int (nI k)), (2, .int 1)] := hl
  have hinX4 : ∀ w ∈ wsX40, w ∈ wsX4_lesson := fun _ h => List.mem_cons_of_mem _ (List.mem_append_left _ (List.mem_append_left _ (List.mem_append_right _ h)))
  have hP : va_P D vwCl (zWT cI cJ h (n, L) (kt, km, kl) (pt, pm, pl) (nu, le, ow, fo, run, wc, lc, tr, cl, tm, ms) (yl, yc, yt, co, pa, su, sc) mc ++ R) s.heap := hP
  have hD : va_D (zAb B) (zWT cI cJ h (n, L) (kt, km, kl) (pt, pm, pl) (nu, le, ow, fo, run, wc, lc, tr, cl, tm, ms) (yl, yc, yt, co, pa, su, sc) mc ++ R) := hD
  refine lv_iload_n hx hb dX4_lesson_0 rfl (lv_at hl 1 rfl) ?_
  refine lv_if_lt (tgt := 24) hx hb dX4_lesson_1 (by decide) (fun c_1 => ?_) (fun c_1 => ?_)
  · skip
    have c_1 : k < 0 := (nI_ltI (a := k) (b := 0) (by omega) (by omega)).mp c_1
    exfalso; first | omega | (revert c_1; decide) | (exact absurd rfl c_1) | simp_all
  · skip
    have c_1 : ¬ k < 0 := fun hh => c_1 ((nI_ltI (a := k) (b := 0) (by omega) (by omega)).mpr hh)
    refine lv_iload_n hx hb dX4_lesson_4 rfl (lv_at hl 1 rfl) ?_
    refine lv_aload_n hx hb dX4_lesson_5 rfl (lv_at hl 0 rfl) ?_
    refine va_get (ci := 4) (v := .ref (h 16)) (C := RX4) (T := TX4) (N := 6) hx hb hts hinX4 hown hK hP 0 rfl rfl 4 (by decide) (hts (.fieldLink RX4 38 "TypingTutor" "past" "LTypingTutor$History;") (List.mem_of_getElem? (i := 3) rfl)) (fun _ h9 => h9) rfl dX4_lesson_6 ?_
    refine zci (zrV (As := []) (rest := [.int (nI k)]) ⟨hx, hb, hml, hown, hts⟩ (zV 16 hP hD hK hE hB hS rfl rfl) (c_X0_size  ) (cwV 0 hts gX4_lesson_X0_size rfl rfl rfl hdv_X0_size ⟨Nat.le_of_ble_eq_true rfl, Nat.le_of_ble_eq_true rfl⟩) rfl rfl hl.1 rfl (lv_room (Nat.le_of_ble_eq_true rfl)) dX4_lesson_9 ⟨Nat.le_of_ble_eq_true rfl, Nat.le_of_ble_eq_true rfl⟩) hS (fun H locs hP hD hS => ?_)
    have hP : va_P D vwCl (zWT cI cJ h (n, L) (kt, km, kl) (pt, pm, pl) (nu, le, ow, fo, run, wc, lc, tr, cl, tm, ms) (yl, yc, yt, co, pa, su, sc) mc ++ R) _ := hP
    have hD : va_D (zAb B) (zWT cI cJ h (n, L) (kt, km, kl) (pt, pm, pl) (nu, le, ow, fo, run, wc, lc, tr, cl, tm, ms) (yl, yc, yt, co, pa, su, sc) mc ++ R) := hD
    refine lv_icmp_ge (tgt := 24) hx hb dX4_lesson_12 (by decide) (fun c_2 => ?_) (fun c_2 => ?_)
    · skip
      have c_2 : co ≤ k := (nI_leI (a := co) (b := k) (by omega) (by omega)).mp c_2
      exfalso; first | omega | (revert c_2; decide) | (exact absurd rfl c_2) | simp_all
    · skip
      have c_2 : ¬ co ≤ k := fun hh => c_2 ((nI_leI (a := co) (b := k) (by omega) (by omega)).mpr hh)
      refine lv_iload_n hx hb dX4_lesson_15 rfl (lv_at hl 2 rfl) ?_
      refine lv_if_lt (tgt := 24) hx hb dX4_lesson_16 (by decide) (fun c_3 => ?_) (fun c_3 => ?_)
      · skip
        exfalso; first | omega | (revert c_3; decide) | (exact absurd rfl c_3) | simp_all
      · skip
        refine lv_iload_n hx hb dX4_lesson_19 rfl (lv_at hl 2 rfl) ?_
        refine lv_iconst (v := 3) hx hb dX4_lesson_20 (by decide) ?_
        refine lv_icmp_le (tgt := 34) hx hb dX4_lesson_21 (by decide) (fun c_4 => ?_) (fun c_4 => ?_)
        · skip
          refine lv_aload_n hx hb dX4_lesson_34 rfl (lv_at hl 0 rfl) ?_
          refine va_get (ci := 4) (v := .ref (h 16)) (C := RX4) (T := TX4) (N := 6) hx hb hts hinX4 hown hK hP 0 rfl rfl 4 (by decide) (hts (.fieldLink RX4 38 "TypingTutor" "past" "LTypingTutor$History;") (List.mem_of_getElem? (i := 3) rfl)) (fun _ h9 => h9) rfl dX4_lesson_35 ?_
          refine lv_iload_n hx hb dX4_lesson_38 rfl (lv_at hl 1 rfl) ?_
          refine lv_iload_n hx hb dX4_lesson_39 rfl (lv_at hl 2 rfl) ?_
          refine zci (zrV (As := [.int (nI k), .int 1]) (rest := []) ⟨hx, hb, hml, hown, hts⟩ (zV 16 hP hD hK hE hB hS rfl rfl) (c_X0_tell_1 (k := k) (by omega)) (cwV 2 hts gX4_lesson_X0_tell rfl rfl rfl hdv_X0_tell ⟨Nat.le_of_ble_eq_true rfl, Nat.le_of_ble_eq_true rfl⟩) rfl rfl hl.1 rfl (lv_room (Nat.le_of_ble_eq_true rfl)) dX4_lesson_40 ⟨Nat.le_of_ble_eq_true rfl, Nat.le_of_ble_eq_true rfl⟩) hS (fun H locs hP hD hS => ?_)
          have hP : va_P D vwCl (zWT cI cJ h (n, L) (kt, km, kl) (pt, pm, pl) (nu, le, ow, fo, run, wc, lc, tr, cl, tm, ms) (yl, yc, yt, co, pa, su, sc) mc ++ R) _ := hP
          have hD : va_D (zAb B) (zWT cI cJ h (n, L) (kt, km, kl) (pt, pm, pl) (nu, le, ow, fo, run, wc, lc, tr, cl, tm, ms) (yl, yc, yt, co, pa, su, sc) mc ++ R) := hD
          exact W.iret (v := (yc k)) hx hb hr (fun t ht hW => ⟨⟨_, (), rfl, rfl, by rw [ht]; exact hP, hD⟩, hS.F ht⟩) hS.2.2 dX4_lesson_43
        · skip
          exfalso; first | omega | (revert c_4; decide) | (exact absurd rfl c_4) | simp_all

set_option maxHeartbeats 4000000 in
set_option maxRecDepth 100000 in
theorem c_X4_lesson_2 {l : Launch} {B kr kp : Nat} {D : va_G} {cI cJ cZ : ClassId} {h : Nat → Nat} {R : va_W} {n : Nat} {L : Nat → Int64} {kt : Nat → Int32} {km : Nat → Int32} {kl : Nat → Int32} {pt : Nat → Int32} {pm : Nat → Int32} {pl : Nat → Int32} {nu : Nat → Int32} {le : Nat → Int32} {ow : Nat → Int32} {fo : Nat → Int32} {run : Bool} {wc : Nat} {lc : Nat} {tr : Nat} {cl : Nat} {tm : Nat} {ms : Nat} {yl : Nat → Int32} {yc : Nat → Int32} {yt : Nat → Int32} {co : Nat} {pa : Int32} {su : Nat} {sc : Nat} {mc : Nat → Int32} {k : Nat}   (hk : k < co) (hco : co ≤ 256) : Met l yX4_lesson wsX4_lesson ({ frames := 2, cells := 0, slots := 0, locals := 43 }) (zPc B kr kp D (zTy cI cJ cZ) (zWT cI cJ h (n, L) (kt, km, kl) (pt, pm, pl) (nu, le, ow, fo, run, wc, lc, tr, cl, tm, ms) (yl, yc, yt, co, pa, su, sc) mc ++ R) [.ref (h 0), .int (nI k), .int 2]) (zQi B D (zWT cI cJ h (n, L) (kt, km, kl) (pt, pm, pl) (nu, le, ow, fo, run, wc, lc, tr, cl, tm, ms) (yl, yc, yt, co, pa, su, sc) mc ++ R) (yt k)) 0 0 (zAb B) := by
  refine Met.ofW (cc := cX4_lesson) (maxL := 3) (ret := (some .int)) (by decide) rfl ?_
  intro p e s m args below meth c s₁ B0 hml hv
  obtain ⟨rfl, hP, hD, hK, hE, hB⟩ := hv
  have hx := B0.exec
  have hb := B0.bytes
  have hr := B0.returns
  have hts := atoms_spec (ws := wsX4_lesson) B0.pre
  have hown : s.vm.findClass RX4 = some m.cls := findClass_of_methodNamed B0.named
  have hlocks := B0.notSynchronized
  have hA : ∀ q : Nat, s.heap.size ≤ q → zAb B q := fun q hq => Nat.le_trans hB hq
  have hS : va_S (zAb B) s.heap s.heap [] := va_S.rf
  have hl := lv_entry ([.ref (h 0), .int (nI k), .int 2]) (n := 3) (Nat.le_of_ble_eq_true rfl)
  rw [lg_entry_eq]
  generalize (lg_sl ([.ref (h 0), .int (nI k), .int 2]) ++ List.replicate (3 - (lg_sl ([.ref (h 0), .int (nI k), .int 2])).length) Slot.unset).toArray = ls at hl ⊢
  have hl : lv_has ls 3 [(0, .ref (h 0)), (1, .int (nI k)), (2, .int 2)] := hl
  have hinX4 : ∀ w ∈ wsX40, w ∈ wsX4_lesson := fun _ h => List.mem_cons_of_mem _ (List.mem_append_left _ (List.mem_append_left _ (List.mem_append_right _ h)))
  have hP : va_P D vwCl (zWT cI cJ h (n, L) (kt, km, kl) (pt, pm, pl) (nu, le, ow, fo, run, wc, lc, tr, cl, tm, ms) (yl, yc, yt, co, pa, su, sc) mc ++ R) s.heap := hP
  have hD : va_D (zAb B) (zWT cI cJ h (n, L) (kt, km, kl) (pt, pm, pl) (nu, le, ow, fo, run, wc, lc, tr, cl, tm, ms) (yl, yc, yt, co, pa, su, sc) mc ++ R) := hD
  refine lv_iload_n hx hb dX4_lesson_0 rfl (lv_at hl 1 rfl) ?_
  refine lv_if_lt (tgt := 24) hx hb dX4_lesson_1 (by decide) (fun c_1 => ?_) (fun c_1 => ?_)
  · skip
    have c_1 : k < 0 := (nI_ltI (a := k) (b := 0) (by omega) (by omega)).mp c_1
    exfalso; first | omega | (revert c_1; decide) | (exact absurd rfl c_1) | simp_all
  · skip
    have c_1 : ¬ k < 0 := fun hh => c_1 ((nI_ltI (a := k) (b := 0) (by omega) (by omega)).mpr hh)
    refine lv_iload_n hx hb dX4_lesson_4 rfl (lv_at hl 1 rfl) ?_
    refine lv_aload_n hx hb dX4_lesson_5 rfl (lv_at hl 0 rfl) ?_
    refine va_get (ci := 4) (v := .ref (h 16)) (C := RX4) (T := TX4) (N := 6) hx hb hts hinX4 hown hK hP 0 rfl rfl 4 (by decide) (hts (.fieldLink RX4 38 "TypingTutor" "past" "LTypingTutor$History;") (List.mem_of_getElem? (i := 3) rfl)) (fun _ h9 => h9) rfl dX4_lesson_6 ?_
    refine zci (zrV (As := []) (rest := [.int (nI k)]) ⟨hx, hb, hml, hown, hts⟩ (zV 16 hP hD hK hE hB hS rfl rfl) (c_X0_size  ) (cwV 0 hts gX4_lesson_X0_size rfl rfl rfl hdv_X0_size ⟨Nat.le_of_ble_eq_true rfl, Nat.le_of_ble_eq_true rfl⟩) rfl rfl hl.1 rfl (lv_room (Nat.le_of_ble_eq_true rfl)) dX4_lesson_9 ⟨Nat.le_of_ble_eq_true rfl, Nat.le_of_ble_eq_true rfl⟩) hS (fun H locs hP hD hS => ?_)
    have hP : va_P D vwCl (zWT cI cJ h (n, L) (kt, km, kl) (pt, pm, pl) (nu, le, ow, fo, run, wc, lc, tr, cl, tm, ms) (yl, yc, yt, co, pa, su, sc) mc ++ R) _ := hP
    have hD : va_D (zAb B) (zWT cI cJ h (n, L) (kt, km, kl) (pt, pm, pl) (nu, le, ow, fo, run, wc, lc, tr, cl, tm, ms) (yl, yc, yt, co, pa, su, sc) mc ++ R) := hD
    refine lv_icmp_ge (tgt := 24) hx hb dX4_lesson_12 (by decide) (fun c_2 => ?_) (fun c_2 => ?_)
    · skip
      have c_2 : co ≤ k := (nI_leI (a := co) (b := k) (by omega) (by omega)).mp c_2
      exfalso; first | omega | (revert c_2; decide) | (exact absurd rfl c_2) | simp_all
    · skip
      have c_2 : ¬ co ≤ k := fun hh => c_2 ((nI_leI (a := co) (b := k) (by omega) (by omega)).mpr hh)
      refine lv_iload_n hx hb dX4_lesson_15 rfl (lv_at hl 2 rfl) ?_
      refine lv_if_lt (tgt := 24) hx hb dX4_lesson_16 (by decide) (fun c_3 => ?_) (fun c_3 => ?_)
      · skip
        exfalso; first | omega | (revert c_3; decide) | (exact absurd rfl c_3) | simp_all
      · skip
        refine lv_iload_n hx hb dX4_lesson_19 rfl (lv_at hl 2 rfl) ?_
        refine lv_iconst (v := 3) hx hb dX4_lesson_20 (by decide) ?_
        refine lv_icmp_le (tgt := 34) hx hb dX4_lesson_21 (by decide) (fun c_4 => ?_) (fun c_4 => ?_)
        · skip
          refine lv_aload_n hx hb dX4_lesson_34 rfl (lv_at hl 0 rfl) ?_
          refine va_get (ci := 4) (v := .ref (h 16)) (C := RX4) (T := TX4) (N := 6) hx hb hts hinX4 hown hK hP 0 rfl rfl 4 (by decide) (hts (.fieldLink RX4 38 "TypingTutor" "past" "LTypingTutor$History;") (List.mem_of_getElem? (i := 3) rfl)) (fun _ h9 => h9) rfl dX4_lesson_35 ?_
          refine lv_iload_n hx hb dX4_lesson_38 rfl (lv_at hl 1 rfl) ?_
          refine lv_iload_n hx hb dX4_lesson_39 rfl (lv_at hl 2 rfl) ?_
          refine zci (zrV (As := [.int (nI k), .int 2]) (rest := []) ⟨hx, hb, hml, hown, hts⟩ (zV 16 hP hD hK hE hB hS rfl rfl) (c_X0_tell_2 (k := k) (by omega)) (cwV 2 hts gX4_lesson_X0_tell rfl rfl rfl hdv_X0_tell ⟨Nat.le_of_ble_eq_true rfl, Nat.le_of_ble_eq_true rfl⟩) rfl rfl hl.1 rfl (lv_room (Nat.le_of_ble_eq_true rfl)) dX4_lesson_40 ⟨Nat.le_of_ble_eq_true rfl, Nat.le_of_ble_eq_true rfl⟩) hS (fun H locs hP hD hS => ?_)
          have hP : va_P D vwCl (zWT cI cJ h (n, L) (kt, km, kl) (pt, pm, pl) (nu, le, ow, fo, run, wc, lc, tr, cl, tm, ms) (yl, yc, yt, co, pa, su, sc) mc ++ R) _ := hP
          have hD : va_D (zAb B) (zWT cI cJ h (n, L) (kt, km, kl) (pt, pm, pl) (nu, le, ow, fo, run, wc, lc, tr, cl, tm, ms) (yl, yc, yt, co, pa, su, sc) mc ++ R) := hD
          exact W.iret (v := (yt k)) hx hb hr (fun t ht hW => ⟨⟨_, (), rfl, rfl, by rw [ht]; exact hP, hD⟩, hS.F ht⟩) hS.2.2 dX4_lesson_43
        · skip
          exfalso; first | omega | (revert c_4; decide) | (exact absurd rfl c_4) | simp_all

set_option maxHeartbeats 4000000 in
set_option maxRecDepth 100000 in
theorem c_X4_lesson_3 {l : Launch} {B kr kp : Nat} {D : va_G} {cI cJ cZ : ClassId} {h : Nat → Nat} {R : va_W} {n : Nat} {L : Nat → Int64} {kt : Nat → Int32} {km : Nat → Int32} {kl : Nat → Int32} {pt : Nat → Int32} {pm : Nat → Int32} {pl : Nat → Int32} {nu : Nat → Int32} {le : Nat → Int32} {ow : Nat → Int32} {fo : Nat → Int32} {run : Bool} {wc : Nat} {lc : Nat} {tr : Nat} {cl : Nat} {tm : Nat} {ms : Nat} {yl : Nat → Int32} {yc : Nat → Int32} {yt : Nat → Int32} {co : Nat} {pa : Int32} {su : Nat} {sc : Nat} {mc : Nat → Int32} {k : Nat}   (hk : k < co) (hco : co ≤ 256) : Met l yX4_lesson wsX4_lesson ({ frames := 3, cells := 0, slots := 0, locals := 65 }) (zPc B kr kp D (zTy cI cJ cZ) (zWT cI cJ h (n, L) (kt, km, kl) (pt, pm, pl) (nu, le, ow, fo, run, wc, lc, tr, cl, tm, ms) (yl, yc, yt, co, pa, su, sc) mc ++ R) [.ref (h 0), .int (nI k), .int 3]) (zQi B D (zWT cI cJ h (n, L) (kt, km, kl) (pt, pm, pl) (nu, le, ow, fo, run, wc, lc, tr, cl, tm, ms) (yl, yc, yt, co, pa, su, sc) mc ++ R) (zsp yl yt k)) 0 0 (zAb B) := by
  refine Met.ofW (cc := cX4_lesson) (maxL := 3) (ret := (some .int)) (by decide) rfl ?_
  intro p e s m args below meth c s₁ B0 hml hv
  obtain ⟨rfl, hP, hD, hK, hE, hB⟩ := hv
  have hx := B0.exec
  have hb := B0.bytes
  have hr := B0.returns
  have hts := atoms_spec (ws := wsX4_lesson) B0.pre
  have hown : s.vm.findClass RX4 = some m.cls := findClass_of_methodNamed B0.named
  have hlocks := B0.notSynchronized
  have hA : ∀ q : Nat, s.heap.size ≤ q → zAb B q := fun q hq => Nat.le_trans hB hq
  have hS : va_S (zAb B) s.heap s.heap [] := va_S.rf
  have hl := lv_entry ([.ref (h 0), .int (nI k), .int 3]) (n := 3) (Nat.le_of_ble_eq_true rfl)
  rw [lg_entry_eq]
  generalize (lg_sl ([.ref (h 0), .int (nI k), .int 3]) ++ List.replicate (3 - (lg_sl ([.ref (h 0), .int (nI k), .int 3])).length) Slot.unset).toArray = ls at hl ⊢
  have hl : lv_has ls 3 [(0, .ref (h 0)), (1, .int (nI k)), (2, .int 3)] := hl
  have hinX4 : ∀ w ∈ wsX40, w ∈ wsX4_lesson := fun _ h => List.mem_cons_of_mem _ (List.mem_append_left _ (List.mem_append_left _ (List.mem_append_right _ h)))
  have hP : va_P D vwCl (zWT cI cJ h (n, L) (kt, km, kl) (pt, pm, pl) (nu, le, ow, fo, run, wc, lc, tr, cl, tm, ms) (yl, yc, yt, co, pa, su, sc) mc ++ R) s.heap := hP
  have hD : va_D (zAb B) (zWT cI cJ h (n, L) (kt, km, kl) (pt, pm, pl) (nu, le, ow, fo, run, wc, lc, tr, cl, tm, ms) (yl, yc, yt, co, pa, su, sc) mc ++ R) := hD
  refine lv_iload_n hx hb dX4_lesson_0 rfl (lv_at hl 1 rfl) ?_
  refine lv_if_lt (tgt := 24) hx hb dX4_lesson_1 (by decide) (fun c_1 => ?_) (fun c_1 => ?_)
  · skip
    have c_1 : k < 0 := (nI_ltI (a := k) (b := 0) (by omega) (by omega)).mp c_1
    exfalso; first | omega | (revert c_1; decide) | (exact absurd rfl c_1) | simp_all
  · skip
    have c_1 : ¬ k < 0 := fun hh => c_1 ((nI_ltI (a := k) (b := 0) (by omega) (by omega)).mpr hh)
    refine lv_iload_n hx hb dX4_lesson_4 rfl (lv_at hl 1 rfl) ?_
    refine lv_aload_n hx hb dX4_lesson_5 rfl (lv_at hl 0 rfl) ?_
    refine va_get (ci := 4) (v := .ref (h 16)) (C := RX4) (T := TX4) (N := 6) hx hb hts hinX4 hown hK hP 0 rfl rfl 4 (by decide) (hts (.fieldLink RX4 38 "TypingTutor" "past" "LTypingTutor$History;") (List.mem_of_getElem? (i := 3) rfl)) (fun _ h9 => h9) rfl dX4_lesson_6 ?_
    refine zci (zrV (As := []) (rest := [.int (nI k)]) ⟨hx, hb, hml, hown, hts⟩ (zV 16 hP hD hK hE hB hS rfl rfl) (c_X0_size  ) (cwV 0 hts gX4_lesson_X0_size rfl rfl rfl hdv_X0_size ⟨Nat.le_of_ble_eq_true rfl, Nat.le_of_ble_eq_true rfl⟩) rfl rfl hl.1 rfl (lv_room (Nat.le_of_ble_eq_true rfl)) dX4_lesson_9 ⟨Nat.le_of_ble_eq_true rfl, Nat.le_of_ble_eq_true rfl⟩) hS (fun H locs hP hD hS => ?_)
    have hP : va_P D vwCl (zWT cI cJ h (n, L) (kt, km, kl) (pt, pm, pl) (nu, le, ow, fo, run, wc, lc, tr, cl, tm, ms) (yl, yc, yt, co, pa, su, sc) mc ++ R) _ := hP
    have hD : va_D (zAb B) (zWT cI cJ h (n, L) (kt, km, kl) (pt, pm, pl) (nu, le, ow, fo, run, wc, lc, tr, cl, tm, ms) (yl, yc, yt, co, pa, su, sc) mc ++ R) := hD
    refine lv_icmp_ge (tgt := 24) hx hb dX4_lesson_12 (by decide) (fun c_2 => ?_) (fun c_2 => ?_)
    · skip
      have c_2 : co ≤ k := (nI_leI (a := co) (b := k) (by omega) (by omega)).mp c_2
      exfalso; first | omega | (revert c_2; decide) | (exact absurd rfl c_2) | simp_all
    · skip
      have c_2 : ¬ co ≤ k := fun hh => c_2 ((nI_leI (a := co) (b := k) (by omega) (by omega)).mpr hh)
      refine lv_iload_n hx hb dX4_lesson_15 rfl (lv_at hl 2 rfl) ?_
      refine lv_if_lt (tgt := 24) hx hb dX4_lesson_16 (by decide) (fun c_3 => ?_) (fun c_3 => ?_)
      · skip
        exfalso; first | omega | (revert c_3; decide) | (exact absurd rfl c_3) | simp_all
      · skip
        refine lv_iload_n hx hb dX4_lesson_19 rfl (lv_at hl 2 rfl) ?_
        refine lv_iconst (v := 3) hx hb dX4_lesson_20 (by decide) ?_
        refine lv_icmp_le (tgt := 34) hx hb dX4_lesson_21 (by decide) (fun c_4 => ?_) (fun c_4 => ?_)
        · skip
          refine lv_aload_n hx hb dX4_lesson_34 rfl (lv_at hl 0 rfl) ?_
          refine va_get (ci := 4) (v := .ref (h 16)) (C := RX4) (T := TX4) (N := 6) hx hb hts hinX4 hown hK hP 0 rfl rfl 4 (by decide) (hts (.fieldLink RX4 38 "TypingTutor" "past" "LTypingTutor$History;") (List.mem_of_getElem? (i := 3) rfl)) (fun _ h9 => h9) rfl dX4_lesson_35 ?_
          refine lv_iload_n hx hb dX4_lesson_38 rfl (lv_at hl 1 rfl) ?_
          refine lv_iload_n hx hb dX4_lesson_39 rfl (lv_at hl 2 rfl) ?_
          refine zci (zrV (As := [.int (nI k), .int 3]) (rest := []) ⟨hx, hb, hml, hown, hts⟩ (zV 16 hP hD hK hE hB hS rfl rfl) (c_X0_tell_3 (k := k) (by omega)) (cwV 2 hts gX4_lesson_X0_tell rfl rfl rfl hdv_X0_tell ⟨Nat.le_of_ble_eq_true rfl, Nat.le_of_ble_eq_true rfl⟩) rfl rfl hl.1 rfl (lv_room (Nat.le_of_ble_eq_true rfl)) dX4_lesson_40 ⟨Nat.le_of_ble_eq_true rfl, Nat.le_of_ble_eq_true rfl⟩) hS (fun H locs hP hD hS => ?_)
          have hP : va_P D vwCl (zWT cI cJ h (n, L) (kt, km, kl) (pt, pm, pl) (nu, le, ow, fo, run, wc, lc, tr, cl, tm, ms) (yl, yc, yt, co, pa, su, sc) mc ++ R) _ := hP
          have hD : va_D (zAb B) (zWT cI cJ h (n, L) (kt, km, kl) (pt, pm, pl) (nu, le, ow, fo, run, wc, lc, tr, cl, tm, ms) (yl, yc, yt, co, pa, su, sc) mc ++ R) := hD
          exact W.iret (v := (zsp yl yt k)) hx hb hr (fun t ht hW => ⟨⟨_, (), rfl, rfl, by rw [ht]; exact hP, hD⟩, hS.F ht⟩) hS.2.2 dX4_lesson_43
        · skip
          exfalso; first | omega | (revert c_4; decide) | (exact absurd rfl c_4) | simp_all

set_option maxHeartbeats 4000000 in
set_option maxRecDepth 100000 in
theorem c_X4_lesson_x {l : Launch} {B kr kp : Nat} {D : va_G} {cI cJ cZ : ClassId} {h : Nat → Nat} {R : va_W} {n : Nat} {L : Nat → Int64} {kt : Nat → Int32} {km : Nat → Int32} {kl : Nat → Int32} {pt : Nat → Int32} {pm : Nat → Int32} {pl : Nat → Int32} {nu : Nat → Int32} {le : Nat → Int32} {ow : Nat → Int32} {fo : Nat → Int32} {run : Bool} {wc : Nat} {lc : Nat} {tr : Nat} {cl : Nat} {tm : Nat} {ms : Nat} {yl : Nat → Int32} {yc : Nat → Int32} {yt : Nat → Int32} {co : Nat} {pa : Int32} {su : Nat} {sc : Nat} {mc : Nat → Int32} {i : Int32} {j : Int32}   (hls : l.stackTraces = false) (h1 : ¬ (¬ i < 0 ∧ ¬ nI co ≤ i ∧ ¬ j < 0 ∧ j ≤ 3)) : vx_Met l yX4_lesson wsX4_lesson ({ frames := 6, cells := 1, slots := 6, locals := 82 }) (zPc B kr kp D (zTy cI cJ cZ) (zWT cI cJ h (n, L) (kt, km, kl) (pt, pm, pl) (nu, le, ow, fo, run, wc, lc, tr, cl, tm, ms) (yl, yc, yt, co, pa, su, sc) mc ++ R) [.ref (h 0), .int i, .int j]) (zQxi B D (zWT cI cJ h (n, L) (kt, km, kl) (pt, pm, pl) (nu, le, ow, fo, run, wc, lc, tr, cl, tm, ms) (yl, yc, yt, co, pa, su, sc) mc ++ R)) (zXC "java/lang/IndexOutOfBoundsException" B D (zWT cI cJ h (n, L) (kt, km, kl) (pt, pm, pl) (nu, le, ow, fo, run, wc, lc, tr, cl, tm, ms) (yl, yc, yt, co, pa, su, sc) mc ++ R)) 1 6 (zAb B) := by
  refine vx_ofW (cc := cX4_lesson) (maxL := 3) (ret := (some .int)) (by decide) rfl ?_
  intro p e s m args below meth c s₁ B0 hml ht9 hv
  obtain ⟨rfl, hP, hD, hK, hE, hB⟩ := hv
  have hx := B0.exec
  have hb := B0.bytes
  have hr := B0.returns
  have hts := atoms_spec (ws := wsX4_lesson) B0.pre
  have hown : s.vm.findClass RX4 = some m.cls := findClass_of_methodNamed B0.named
  have hlocks := B0.notSynchronized
  have hA : ∀ q : Nat, s.heap.size ≤ q → zAb B q := fun q hq => Nat.le_trans hB hq
  have hS : va_S (zAb B) s.heap s.heap [] := va_S.rf
  have hl := lv_entry ([.ref (h 0), .int i, .int j]) (n := 3) (Nat.le_of_ble_eq_true rfl)
  rw [lg_entry_eq]
  generalize (lg_sl ([.ref (h 0), .int i, .int j]) ++ List.replicate (3 - (lg_sl ([.ref (h 0), .int i, .int j])).length) Slot.unset).toArray = ls at hl ⊢
  have hl : lv_has ls 3 [(0, .ref (h 0)), (1, .int i), (2, .int j)] := hl
  have hinX4 : ∀ w ∈ wsX40, w ∈ wsX4_lesson := fun _ h => List.mem_cons_of_mem _ (List.mem_append_left _ (List.mem_append_left _ (List.mem_append_right _ h)))
  have hP : va_P D vwCl (zWT cI cJ h (n, L) (kt, km, kl) (pt, pm, pl) (nu, le, ow, fo, run, wc, lc, tr, cl, tm, ms) (yl, yc, yt, co, pa, su, sc) mc ++ R) s.heap := hP
  have hD : va_D (zAb B) (zWT cI cJ h (n, L) (kt, km, kl) (pt, pm, pl) (nu, le, ow, fo, run, wc, lc, tr, cl, tm, ms) (yl, yc, yt, co, pa, su, sc) mc ++ R) := hD
  refine lv_iload_n hx hb dX4_lesson_0 rfl (lv_at hl 1 rfl) ?_
  refine lv_if_lt (tgt := 24) hx hb dX4_lesson_1 (by decide) (fun c_1 => ?_) (fun c_1 => ?_)
  · skip
    exact zthrow hx hb hls hown hE hP hD hS (hl.1.trans hml.symm) ht9 hlocks (by decide +kernel) (List.mem_of_getElem? (i := 13) rfl) (by decide +kernel) (hts (.classLink RX4 81 "java/lang/IndexOutOfBoundsException") (List.mem_of_getElem? (i := 1) rfl)) (hts (.initialized "java/lang/IndexOutOfBoundsException") (List.mem_of_getElem? (i := 2) rfl)) (fun w h9 => hts w (List.mem_cons_of_mem _ (List.mem_append_right _ h9))) (by decide +kernel) (by decide +kernel) dX4_lesson_24 dX4_lesson_27 dX4_lesson_28 dX4_lesson_30 dX4_lesson_33 ⟨Nat.le_of_ble_eq_true rfl, Nat.le_of_ble_eq_true rfl, Nat.le_of_ble_eq_true rfl, Nat.le_of_ble_eq_true rfl⟩
  · skip
    refine lv_iload_n hx hb dX4_lesson_4 rfl (lv_at hl 1 rfl) ?_
    refine lv_aload_n hx hb dX4_lesson_5 rfl (lv_at hl 0 rfl) ?_
    refine va_get (ci := 4) (v := .ref (h 16)) (C := RX4) (T := TX4) (N := 6) hx hb hts hinX4 hown hK hP 0 rfl rfl 4 (by decide) (hts (.fieldLink RX4 38 "TypingTutor" "past" "LTypingTutor$History;") (List.mem_of_getElem? (i := 3) rfl)) (fun _ h9 => h9) rfl dX4_lesson_6 ?_
    refine zci (zrV (As := []) (rest := [.int i]) ⟨hx, hb, hml, hown, hts⟩ (zV 16 hP hD hK hE hB hS rfl rfl) (c_X0_size  ) (cwV 0 hts gX4_lesson_X0_size rfl rfl rfl hdv_X0_size ⟨Nat.le_of_ble_eq_true rfl, Nat.le_of_ble_eq_true rfl⟩) rfl rfl hl.1 rfl (lv_room (Nat.le_of_ble_eq_true rfl)) dX4_lesson_9 ⟨Nat.le_of_ble_eq_true rfl, Nat.le_of_ble_eq_true rfl⟩) hS (fun H locs hP hD hS => ?_)
    have hP : va_P D vwCl (zWT cI cJ h (n, L) (kt, km, kl) (pt, pm, pl) (nu, le, ow, fo, run, wc, lc, tr, cl, tm, ms) (yl, yc, yt, co, pa, su, sc) mc ++ R) _ := hP
    have hD : va_D (zAb B) (zWT cI cJ h (n, L) (kt, km, kl) (pt, pm, pl) (nu, le, ow, fo, run, wc, lc, tr, cl, tm, ms) (yl, yc, yt, co, pa, su, sc) mc ++ R) := hD
    refine lv_icmp_ge (tgt := 24) hx hb dX4_lesson_12 (by decide) (fun c_2 => ?_) (fun c_2 => ?_)
    · skip
      exact zthrow hx hb hls hown hE hP hD hS (hl.1.trans hml.symm) ht9 hlocks (by decide +kernel) (List.mem_of_getElem? (i := 13) rfl) (by decide +kernel) (hts (.classLink RX4 81 "java/lang/IndexOutOfBoundsException") (List.mem_of_getElem? (i := 1) rfl)) (hts (.initialized "java/lang/IndexOutOfBoundsException") (List.mem_of_getElem? (i := 2) rfl)) (fun w h9 => hts w (List.mem_cons_of_mem _ (List.mem_append_right _ h9))) (by decide +kernel) (by decide +kernel) dX4_lesson_24 dX4_lesson_27 dX4_lesson_28 dX4_lesson_30 dX4_lesson_33 ⟨Nat.le_of_ble_eq_true rfl, Nat.le_of_ble_eq_true rfl, Nat.le_of_ble_eq_true rfl, Nat.le_of_ble_eq_true rfl⟩
    · skip
      refine lv_iload_n hx hb dX4_lesson_15 rfl (lv_at hl 2 rfl) ?_
      refine lv_if_lt (tgt := 24) hx hb dX4_lesson_16 (by decide) (fun c_3 => ?_) (fun c_3 => ?_)
      · skip
        exact zthrow hx hb hls hown hE hP hD hS (hl.1.trans hml.symm) ht9 hlocks (by decide +kernel) (List.mem_of_getElem? (i := 13) rfl) (by decide +kernel) (hts (.classLink RX4 81 "java/lang/IndexOutOfBoundsException") (List.mem_of_getElem? (i := 1) rfl)) (hts (.initialized "java/lang/IndexOutOfBoundsException") (List.mem_of_getElem? (i := 2) rfl)) (fun w h9 => hts w (List.mem_cons_of_mem _ (List.mem_append_right _ h9))) (by decide +kernel) (by decide +kernel) dX4_lesson_24 dX4_lesson_27 dX4_lesson_28 dX4_lesson_30 dX4_lesson_33 ⟨Nat.le_of_ble_eq_true rfl, Nat.le_of_ble_eq_true rfl, Nat.le_of_ble_eq_true rfl, Nat.le_of_ble_eq_true rfl⟩
      · skip
        refine lv_iload_n hx hb dX4_lesson_19 rfl (lv_at hl 2 rfl) ?_
        refine lv_iconst (v := 3) hx hb dX4_lesson_20 (by decide) ?_
        refine lv_icmp_le (tgt := 34) hx hb dX4_lesson_21 (by decide) (fun c_4 => ?_) (fun c_4 => ?_)
        · skip
          exact absurd ⟨c_1, c_2, c_3, c_4⟩ h1
        · skip
          exact zthrow hx hb hls hown hE hP hD hS (hl.1.trans hml.symm) ht9 hlocks (by decide +kernel) (List.mem_of_getElem? (i := 13) rfl) (by decide +kernel) (hts (.classLink RX4 81 "java/lang/IndexOutOfBoundsException") (List.mem_of_getElem? (i := 1) rfl)) (hts (.initialized "java/lang/IndexOutOfBoundsException") (List.mem_of_getElem? (i := 2) rfl)) (fun w h9 => hts w (List.mem_cons_of_mem _ (List.mem_append_right _ h9))) (by decide +kernel) (by decide +kernel) dX4_lesson_24 dX4_lesson_27 dX4_lesson_28 dX4_lesson_30 dX4_lesson_33 ⟨Nat.le_of_ble_eq_true rfl, Nat.le_of_ble_eq_true rfl, Nat.le_of_ble_eq_true rfl, Nat.le_of_ble_eq_true rfl⟩

set_option maxHeartbeats 4000000 in
set_option maxRecDepth 100000 in
theorem c_X4_isPlateau {l : Launch} {B kr kp : Nat} {D : va_G} {cI cJ cZ : ClassId} {h : Nat → Nat} {R : va_W} {n : Nat} {L : Nat → Int64} {kt : Nat → Int32} {km : Nat → Int32} {kl : Nat → Int32} {pt : Nat → Int32} {pm : Nat → Int32} {pl : Nat → Int32} {nu : Nat → Int32} {le : Nat → Int32} {ow : Nat → Int32} {fo : Nat → Int32} {run : Bool} {wc : Nat} {lc : Nat} {tr : Nat} {cl : Nat} {tm : Nat} {ms : Nat} {yl : Nat → Int32} {yc : Nat → Int32} {yt : Nat → Int32} {co : Nat} {pa : Int32} {su : Nat} {sc : Nat} {mc : Nat → Int32}    (hco : co ≤ 256) : Met l yX4_isPlateau wsX4_isPlateau ({ frames := 3, cells := 0, slots := 0, locals := 67 }) (zPc B kr kp D (zTy cI cJ cZ) (zWT cI cJ h (n, L) (kt, km, kl) (pt, pm, pl) (nu, le, ow, fo, run, wc, lc, tr, cl, tm, ms) (yl, yc, yt, co, pa, su, sc) mc ++ R) [.ref (h 0)]) (zQi B D (zWT cI cJ h (n, L) (kt, km, kl) (pt, pm, pl) (nu, le, ow, fo, run, wc, lc, tr, cl, tm, ms) (yl, yc, yt, co, pa, su, sc) mc ++ R) (zb (zpl yl yt co))) 0 0 (zAb B) := by
  refine Met.ofW (cc := cX4_isPlateau) (maxL := 4) (ret := (some .boolean)) (by decide) rfl ?_
  intro p e s m args below meth c s₁ B0 hml hv
  obtain ⟨rfl, hP, hD, hK, hE, hB⟩ := hv
  have hx := B0.exec
  have hb := B0.bytes
  have hr := B0.returns
  have hts := atoms_spec (ws := wsX4_isPlateau) B0.pre
  have hown : s.vm.findClass RX4 = some m.cls := findClass_of_methodNamed B0.named
  have hlocks := B0.notSynchronized
  have hA : ∀ q : Nat, s.heap.size ≤ q → zAb B q := fun q hq => Nat.le_trans hB hq
  have hS : va_S (zAb B) s.heap s.heap [] := va_S.rf
  have hl := lv_entry ([.ref (h 0)]) (n := 4) (Nat.le_of_ble_eq_true rfl)
  rw [lg_entry_eq]
  generalize (lg_sl ([.ref (h 0)]) ++ List.replicate (4 - (lg_sl ([.ref (h 0)])).length) Slot.unset).toArray = ls at hl ⊢
  have hl : lv_has ls 4 [(0, .ref (h 0))] := hl
  have hinX4 : ∀ w ∈ wsX40, w ∈ wsX4_isPlateau := fun _ h => List.mem_cons_of_mem _ (List.mem_append_left _ (List.mem_append_right _ h))
  have hP : va_P D vwCl (zWT cI cJ h (n, L) (kt, km, kl) (pt, pm, pl) (nu, le, ow, fo, run, wc, lc, tr, cl, tm, ms) (yl, yc, yt, co, pa, su, sc) mc ++ R) s.heap := hP
  have hD : va_D (zAb B) (zWT cI cJ h (n, L) (kt, km, kl) (pt, pm, pl) (nu, le, ow, fo, run, wc, lc, tr, cl, tm, ms) (yl, yc, yt, co, pa, su, sc) mc ++ R) := hD
  refine lv_aload_n hx hb dX4_isPlateau_0 rfl (lv_at hl 0 rfl) ?_
  refine va_get (ci := 4) (v := .ref (h 16)) (C := RX4) (T := TX4) (N := 6) hx hb hts hinX4 hown hK hP 0 rfl rfl 4 (by decide) (hts (.fieldLink RX4 38 "TypingTutor" "past" "LTypingTutor$History;") (List.mem_of_getElem? (i := 1) rfl)) (fun _ h9 => h9) rfl dX4_isPlateau_1 ?_
  refine zci (zrV (As := []) (rest := []) ⟨hx, hb, hml, hown, hts⟩ (zV 16 hP hD hK hE hB hS rfl rfl) (c_X0_size  ) (cwV 0 hts gX4_isPlateau_X0_size rfl rfl rfl hdv_X0_size ⟨Nat.le_of_ble_eq_true rfl, Nat.le_of_ble_eq_true rfl⟩) rfl rfl hl.1 rfl (lv_room (Nat.le_of_ble_eq_true rfl)) dX4_isPlateau_4 ⟨Nat.le_of_ble_eq_true rfl, Nat.le_of_ble_eq_true rfl⟩) hS (fun H locs hP hD hS => ?_)
  have hP : va_P D vwCl (zWT cI cJ h (n, L) (kt, km, kl) (pt, pm, pl) (nu, le, ow, fo, run, wc, lc, tr, cl, tm, ms) (yl, yc, yt, co, pa, su, sc) mc ++ R) _ := hP
  have hD : va_D (zAb B) (zWT cI cJ h (n, L) (kt, km, kl) (pt, pm, pl) (nu, le, ow, fo, run, wc, lc, tr, cl, tm, ms) (yl, yc, yt, co, pa, su, sc) mc ++ R) := hD
  refine lv_istore_n (lv' := [(1, .int (nI co)), (0, .ref (h 0))]) hx hb dX4_isPlateau_7 rfl hl (by decide) rfl (fun ls hl => ?_)
  refine lv_iload_n hx hb dX4_isPlateau_8 rfl (lv_at hl 0 rfl) ?_
  refine lv_bipush (v := 6) hx hb dX4_isPlateau_9 (by decide) ?_
  refine lv_icmp_ge (tgt := 16) hx hb dX4_isPlateau_11 (by decide) (fun c_1 => ?_) (fun c_1 => ?_)
  · skip
    have c_1 : 6 ≤ co := (nI_leI (a := 6) (b := co) (by omega) (by omega)).mp c_1
    refine lv_aload_n hx hb dX4_isPlateau_16 rfl (lv_at hl 1 rfl) ?_
    refine va_get (ci := 4) (v := .ref (h 16)) (C := RX4) (T := TX4) (N := 6) hx hb hts hinX4 hown hK hP 0 rfl rfl 4 (by decide) (hts (.fieldLink RX4 38 "TypingTutor" "past" "LTypingTutor$History;") (List.mem_of_getElem? (i := 1) rfl)) (fun _ h9 => h9) rfl dX4_isPlateau_17 ?_
    refine lv_iload_n hx hb dX4_isPlateau_20 rfl (lv_at hl 0 rfl) ?_
    refine lv_iconst (v := 3) hx hb dX4_isPlateau_21 (by decide) ?_
    refine lv_isub hx hb dX4_isPlateau_22 ?_
    refine lv_topi (fun v_2 ev_2 => ?_)
    obtain rfl : v_2 = (nI (co - 3)) := ev_2.trans (pk_sub (a := co) (b := 3) (by omega))
    refine lv_iload_n hx hb dX4_isPlateau_23 rfl (lv_at hl 0 rfl) ?_
    refine zci (zrV (As := [.int (nI (co - 3)), .int (nI co)]) (rest := []) ⟨hx, hb, hml, hown, hts⟩ (zV 16 hP hD hK hE hB hS rfl rfl) (c_X0_greatestSpeed (a := (co - 3)) (b := co) (by omega) (by omega)) (cwV 2 hts gX4_isPlateau_X0_greatestSpeed rfl rfl rfl hdv_X0_greatestSpeed ⟨Nat.le_of_ble_eq_true rfl, Nat.le_of_ble_eq_true rfl⟩) rfl rfl hl.1 rfl (lv_room (Nat.le_of_ble_eq_true rfl)) dX4_isPlateau_24 ⟨Nat.le_of_ble_eq_true rfl, Nat.le_of_ble_eq_true rfl⟩) hS (fun H locs hP hD hS => ?_)
    have hP : va_P D vwCl (zWT cI cJ h (n, L) (kt, km, kl) (pt, pm, pl) (nu, le, ow, fo, run, wc, lc, tr, cl, tm, ms) (yl, yc, yt, co, pa, su, sc) mc ++ R) _ := hP
    have hD : va_D (zAb B) (zWT cI cJ h (n, L) (kt, km, kl) (pt, pm, pl) (nu, le, ow, fo, run, wc, lc, tr, cl, tm, ms) (yl, yc, yt, co, pa, su, sc) mc ++ R) := hD
    refine lv_istore_n (lv' := [(2, .int (zgs yl yt (co - 3) (co - (co - 3)))), (1, .int (nI co)), (0, .ref (h 0))]) hx hb dX4_isPlateau_27 rfl hl (by decide) rfl (fun ls hl => ?_)
    refine lv_aload_n hx hb dX4_isPlateau_28 rfl (lv_at hl 2 rfl) ?_
    refine va_get (ci := 4) (v := .ref (h 16)) (C := RX4) (T := TX4) (N := 6) hx hb hts hinX4 hown hK hP 0 rfl rfl 4 (by decide) (hts (.fieldLink RX4 38 "TypingTutor" "past" "LTypingTutor$History;") (List.mem_of_getElem? (i := 1) rfl)) (fun _ h9 => h9) rfl dX4_isPlateau_29 ?_
    refine lv_iload_n hx hb dX4_isPlateau_32 rfl (lv_at hl 1 rfl) ?_
    refine lv_bipush (v := 6) hx hb dX4_isPlateau_33 (by decide) ?_
    refine lv_isub hx hb dX4_isPlateau_35 ?_
    refine lv_topi (fun v_3 ev_3 => ?_)
    obtain rfl : v_3 = (nI (co - 6)) := ev_3.trans (pk_sub (a := co) (b := 6) (by omega))
    refine lv_iload_n hx hb dX4_isPlateau_36 rfl (lv_at hl 1 rfl) ?_
    refine lv_iconst (v := 3) hx hb dX4_isPlateau_37 (by decide) ?_
    refine lv_isub hx hb dX4_isPlateau_38 ?_
    refine lv_topi (fun v_4 ev_4 => ?_)
    obtain rfl : v_4 = (nI (co - 3)) := ev_4.trans (pk_sub (a := co) (b := 3) (by omega))
    refine zci (zrV (As := [.int (nI (co - 6)), .int (nI (co - 3))]) (rest := []) ⟨hx, hb, hml, hown, hts⟩ (zV 16 hP hD hK hE hB hS rfl rfl) (c_X0_greatestSpeed (a := (co - 6)) (b := (co - 3)) (by omega) (by omega)) (cwV 2 hts gX4_isPlateau_X0_greatestSpeed rfl rfl rfl hdv_X0_greatestSpeed ⟨Nat.le_of_ble_eq_true rfl, Nat.le_of_ble_eq_true rfl⟩) rfl rfl hl.1 rfl (lv_room (Nat.le_of_ble_eq_true rfl)) dX4_isPlateau_39 ⟨Nat.le_of_ble_eq_true rfl, Nat.le_of_ble_eq_true rfl⟩) hS (fun H locs hP hD hS => ?_)
    have hP : va_P D vwCl (zWT cI cJ h (n, L) (kt, km, kl) (pt, pm, pl) (nu, le, ow, fo, run, wc, lc, tr, cl, tm, ms) (yl, yc, yt, co, pa, su, sc) mc ++ R) _ := hP
    have hD : va_D (zAb B) (zWT cI cJ h (n, L) (kt, km, kl) (pt, pm, pl) (nu, le, ow, fo, run, wc, lc, tr, cl, tm, ms) (yl, yc, yt, co, pa, su, sc) mc ++ R) := hD
    refine lv_istore_n (lv' := [(3, .int (zgs yl yt (co - 6) ((co - 3) - (co - 6)))), (2, .int (zgs yl yt (co - 3) (co - (co - 3)))), (1, .int (nI co)), (0, .ref (h 0))]) hx hb dX4_isPlateau_42 rfl hl (by decide) rfl (fun ls hl => ?_)
    refine lv_iload_n hx hb dX4_isPlateau_43 rfl (lv_at hl 1 rfl) ?_
    refine lv_iload_n hx hb dX4_isPlateau_44 rfl (lv_at hl 0 rfl) ?_
    refine lv_icmp_gt (tgt := 52) hx hb dX4_isPlateau_45 (by decide) (fun c_5 => ?_) (fun c_5 => ?_)
    · skip
      refine lv_iconst (v := 0) hx hb dX4_isPlateau_52 (by decide) ?_
      exact W.zret (v := 0) hx hb hr rfl (fun t ht hW => ⟨⟨_, (), rfl, zb_f (by rw [zpl, decide_eq_false (Int32.not_le.mpr c_5), Bool.and_false]), by rw [ht]; exact hP, hD⟩, hS.F ht⟩) hS.2.2 dX4_isPlateau_53
    · skip
      refine lv_iconst (v := 1) hx hb dX4_isPlateau_48 (by decide) ?_
      refine lv_goto (tgt := 53) hx hb dX4_isPlateau_49 (by decide) ?_
      exact W.zret (v := 1) hx hb hr rfl (fun t ht hW => ⟨⟨_, (), rfl, zb_t (by rw [zpl, decide_eq_true (show 6 ≤ co by omega), decide_eq_true (Int32.not_lt.mp c_5)]; rfl), by rw [ht]; exact hP, hD⟩, hS.F ht⟩) hS.2.2 dX4_isPlateau_53
  · skip
    have c_1 : ¬ 6 ≤ co := fun hh => c_1 ((nI_leI (a := 6) (b := co) (by omega) (by omega)).mpr hh)
    refine lv_iconst (v := 0) hx hb dX4_isPlateau_14 (by decide) ?_
    exact W.zret (v := 0) hx hb hr rfl (fun t ht hW => ⟨⟨_, (), rfl, zb_f (by rw [zpl, decide_eq_false (by omega), Bool.false_and]), by rw [ht]; exact hP, hD⟩, hS.F ht⟩) hS.2.2 dX4_isPlateau_15

set_option maxHeartbeats 4000000 in
set_option maxRecDepth 100000 in
theorem c_X4_digestOfWords {l : Launch} {B kr kp : Nat} {D : va_G} {cI cJ cZ : ClassId} {h : Nat → Nat} {R : va_W} {n : Nat} {L : Nat → Int64} {kt : Nat → Int32} {km : Nat → Int32} {kl : Nat → Int32} {pt : Nat → Int32} {pm : Nat → Int32} {pl : Nat → Int32} {nu : Nat → Int32} {le : Nat → Int32} {ow : Nat → Int32} {fo : Nat → Int32} {run : Bool} {wc : Nat} {lc : Nat} {tr : Nat} {cl : Nat} {tm : Nat} {ms : Nat} {yl : Nat → Int32} {yc : Nat → Int32} {yt : Nat → Int32} {co : Nat} {pa : Int32} {su : Nat} {sc : Nat} {mc : Nat → Int32} {d : Int64}   (hn : n ≤ 40) : Met l yX4_digestOfWords wsX4_digestOfWords ({ frames := 1, cells := 0, slots := 0, locals := 23 }) (zPc B kr kp D (zTy cI cJ cZ) (zWT cI cJ h (n, L) (kt, km, kl) (pt, pm, pl) (nu, le, ow, fo, run, wc, lc, tr, cl, tm, ms) (yl, yc, yt, co, pa, su, sc) mc ++ R) [.ref (h 0), .long d]) (zQl B D (zWT cI cJ h (n, L) (kt, km, kl) (pt, pm, pl) (nu, le, ow, fo, run, wc, lc, tr, cl, tm, ms) (yl, yc, yt, co, pa, su, sc) mc ++ R) (zdW L (zmx d (nI n).toInt64) n)) 0 0 (zAb B) := by
  refine Met.ofW (cc := cX4_digestOfWords) (maxL := 6) (ret := (some .long)) (by decide) rfl ?_
  intro p e s m args below meth c s₁ B0 hml hv
  obtain ⟨rfl, hP, hD, hK, hE, hB⟩ := hv
  have hx := B0.exec
  have hb := B0.bytes
  have hr := B0.returns
  have hts := atoms_spec (ws := wsX4_digestOfWords) B0.pre
  have hown : s.vm.findClass RX4 = some m.cls := findClass_of_methodNamed B0.named
  have hlocks := B0.notSynchronized
  have hA : ∀ q : Nat, s.heap.size ≤ q → zAb B q := fun q hq => Nat.le_trans hB hq
  have hS : va_S (zAb B) s.heap s.heap [] := va_S.rf
  have hl := lv_entry ([.ref (h 0), .long d]) (n := 6) (Nat.le_of_ble_eq_true rfl)
  rw [lg_entry_eq]
  generalize (lg_sl ([.ref (h 0), .long d]) ++ List.replicate (6 - (lg_sl ([.ref (h 0), .long d])).length) Slot.unset).toArray = ls at hl ⊢
  have hl : lv_has ls 6 [(0, .ref (h 0)), (1, .long d)] := hl
  have hinX4 : ∀ w ∈ wsX40, w ∈ wsX4_digestOfWords := fun _ h => List.mem_cons_of_mem _ (List.mem_append_left _ (List.mem_append_right _ h))
  have hP : va_P D vwCl (zWT cI cJ h (n, L) (kt, km, kl) (pt, pm, pl) (nu, le, ow, fo, run, wc, lc, tr, cl, tm, ms) (yl, yc, yt, co, pa, su, sc) mc ++ R) s.heap := hP
  have hD : va_D (zAb B) (zWT cI cJ h (n, L) (kt, km, kl) (pt, pm, pl) (nu, le, ow, fo, run, wc, lc, tr, cl, tm, ms) (yl, yc, yt, co, pa, su, sc) mc ++ R) := hD
  refine lv_lload_n hx hb dX4_digestOfWords_0 rfl (lv_at hl 1 rfl) ?_
  refine lv_aload_n hx hb dX4_digestOfWords_1 rfl (lv_at hl 0 rfl) ?_
  refine va_get (ci := 4) (v := .ref (h 1)) (C := RX4) (T := TX4) (N := 6) hx hb hts hinX4 hown hK hP 0 rfl rfl 0 (by decide) (hts (.fieldLink RX4 12 "TypingTutor" "list" "LTypingTutor$WordList;") (List.mem_of_getElem? (i := 1) rfl)) (fun _ h9 => h9) rfl dX4_digestOfWords_2 ?_
  refine zci (zrV (As := []) (rest := [.long d]) ⟨hx, hb, hml, hown, hts⟩ (zV 1 hP hD hK hE hB hS rfl rfl) (c_X3_size  ) (cwV 0 hts gX4_digestOfWords_X3_size rfl rfl rfl hdv_X3_size ⟨Nat.le_of_ble_eq_true rfl, Nat.le_of_ble_eq_true rfl⟩) rfl rfl hl.1 rfl (lv_room (Nat.le_of_ble_eq_true rfl)) dX4_digestOfWords_5 ⟨Nat.le_of_ble_eq_true rfl, Nat.le_of_ble_eq_true rfl⟩) hS (fun H locs hP hD hS => ?_)
  have hP : va_P D vwCl (zWT cI cJ h (n, L) (kt, km, kl) (pt, pm, pl) (nu, le, ow, fo, run, wc, lc, tr, cl, tm, ms) (yl, yc, yt, co, pa, su, sc) mc ++ R) _ := hP
  have hD : va_D (zAb B) (zWT cI cJ h (n, L) (kt, km, kl) (pt, pm, pl) (nu, le, ow, fo, run, wc, lc, tr, cl, tm, ms) (yl, yc, yt, co, pa, su, sc) mc ++ R) := hD
  refine lv_i2l (v := ((nI n)).toInt64) hx hb dX4_digestOfWords_8 rfl ?_
  refine zcl (zrS (As := [.long d, .long (((nI n)).toInt64)]) (rest := []) ⟨hx, hb, hml, hown, hts⟩ (zS hP hD hK hE hB hS) (c_X4_mixed  ) (va_cwS 2 hts gX4_digestOfWords_X4_mixed rfl rfl rfl hds_X4_mixed ⟨Nat.le_of_ble_eq_true rfl, Nat.le_of_ble_eq_true rfl⟩) rfl rfl hl.1 rfl (lv_room (Nat.le_of_ble_eq_true rfl)) dX4_digestOfWords_9 ⟨Nat.le_of_ble_eq_true rfl, Nat.le_of_ble_eq_true rfl⟩) hS (fun H locs hP hD hS => ?_)
  have hP : va_P D vwCl (zWT cI cJ h (n, L) (kt, km, kl) (pt, pm, pl) (nu, le, ow, fo, run, wc, lc, tr, cl, tm, ms) (yl, yc, yt, co, pa, su, sc) mc ++ R) _ := hP
  have hD : va_D (zAb B) (zWT cI cJ h (n, L) (kt, km, kl) (pt, pm, pl) (nu, le, ow, fo, run, wc, lc, tr, cl, tm, ms) (yl, yc, yt, co, pa, su, sc) mc ++ R) := hD
  refine lv_lstore_n (lv' := [(3, .long (zmx d (((nI n)).toInt64))), (0, .ref (h 0)), (1, .long d)]) hx hb dX4_digestOfWords_12 rfl hl (by decide) rfl (fun ls hl => ?_)
  refine lv_iconst (v := 0) hx hb dX4_digestOfWords_13 (by decide) ?_
  refine lv_istore (lv' := [(5, .int 0), (3, .long (zmx d (((nI n)).toInt64))), (0, .ref (h 0)), (1, .long d)]) hx hb dX4_digestOfWords_14 hl (by decide) rfl (fun ls hl => ?_)
  refine zloop (σ := (Nat) × (Int64)) (nL := 6) (fun x9 => (zWT cI cJ h (n, L) (kt, km, kl) (pt, pm, pl) (nu, le, ow, fo, run, wc, lc, tr, cl, tm, ms) (yl, yc, yt, co, pa, su, sc) mc ++ R)) (fun x9 => [(5, .int (nI x9.1)), (3, .long x9.2), (0, .ref (h 0)), (1, .long d)]) (fun x9 => []) (fun x9 => (x9.1 ≤ n) ∧ x9.2 = zdW L (zmx d (nI n).toInt64) x9.1) (fun x9 => n - x9.1) ?_ (0, zmx d (nI n).toInt64) (⟨by omega, rfl⟩) _ _ _ hP hD hS (lv_sub hl [0, 1, 2, 3] rfl)
  rintro ⟨j, z⟩ hI ih H locs ls hP hD hS hl
  try dsimp only at hI ih hP hD hS hl ⊢
  obtain ⟨hI, rfl⟩ := hI
  refine lv_iload hx hb dX4_digestOfWords_16 (lv_at hl 0 rfl) ?_
  refine lv_aload_n hx hb dX4_digestOfWords_18 rfl (lv_at hl 2 rfl) ?_
  refine va_get (ci := 4) (v := .ref (h 1)) (C := RX4) (T := TX4) (N := 6) hx hb hts hinX4 hown hK hP 0 rfl rfl 0 (by decide) (hts (.fieldLink RX4 12 "TypingTutor" "list" "LTypingTutor$WordList;") (List.mem_of_getElem? (i := 1) rfl)) (fun _ h9 => h9) rfl dX4_digestOfWords_19 ?_
  refine zci (zrV (As := []) (rest := [.int (nI j)]) ⟨hx, hb, hml, hown, hts⟩ (zV 1 hP hD hK hE hB hS rfl rfl) (c_X3_size  ) (cwV 0 hts gX4_digestOfWords_X3_size rfl rfl rfl hdv_X3_size ⟨Nat.le_of_ble_eq_true rfl, Nat.le_of_ble_eq_true rfl⟩) rfl rfl hl.1 rfl (lv_room (Nat.le_of_ble_eq_true rfl)) dX4_digestOfWords_22 ⟨Nat.le_of_ble_eq_true rfl, Nat.le_of_ble_eq_true rfl⟩) hS (fun H locs hP hD hS => ?_)
  have hP : va_P D vwCl (zWT cI cJ h (n, L) (kt, km, kl) (pt, pm, pl) (nu, le, ow, fo, run, wc, lc, tr, cl, tm, ms) (yl, yc, yt, co, pa, su, sc) mc ++ R) _ := hP
  have hD : va_D (zAb B) (zWT cI cJ h (n, L) (kt, km, kl) (pt, pm, pl) (nu, le, ow, fo, run, wc, lc, tr, cl, tm, ms) (yl, yc, yt, co, pa, su, sc) mc ++ R) := hD
  refine lv_icmp_ge (tgt := 48) hx hb dX4_digestOfWords_25 (by decide) (fun c_1 => ?_) (fun c_1 => ?_)
  · skip
    have c_1 : n ≤ j := (nI_leI (a := n) (b := j) (by omega) (by omega)).mp c_1
    obtain rfl : n = j := by omega
    refine lv_lload_n hx hb dX4_digestOfWords_48 rfl (lv_at hl 1 rfl) ?_
    exact W.lret (v := (zdW L (zmx d (nI n).toInt64) n)) hx hb hr (fun t ht hW => ⟨⟨_, (), rfl, rfl, by rw [ht]; exact hP, hD⟩, hS.F ht⟩) hS.2.2 dX4_digestOfWords_49
  · skip
    have c_1 : ¬ n ≤ j := fun hh => c_1 ((nI_leI (a := n) (b := j) (by omega) (by omega)).mpr hh)
    refine lv_lload_n hx hb dX4_digestOfWords_28 rfl (lv_at hl 1 rfl) ?_
    refine lv_aload_n hx hb dX4_digestOfWords_29 rfl (lv_at hl 2 rfl) ?_
    refine va_get (ci := 4) (v := .ref (h 1)) (C := RX4) (T := TX4) (N := 6) hx hb hts hinX4 hown hK hP 0 rfl rfl 0 (by decide) (hts (.fieldLink RX4 12 "TypingTutor" "list" "LTypingTutor$WordList;") (List.mem_of_getElem? (i := 1) rfl)) (fun _ h9 => h9) rfl dX4_digestOfWords_30 ?_
    refine lv_iload hx hb dX4_digestOfWords_33 (lv_at hl 0 rfl) ?_
    refine zcl (zrV (As := [.int (nI j)]) (rest := [.long (zdW L (zmx d (nI n).toInt64) j)]) ⟨hx, hb, hml, hown, hts⟩ (zV 1 hP hD hK hE hB hS rfl rfl) (c_X3_wordAt (k := j) (by omega)) (cwV 1 hts gX4_digestOfWords_X3_wordAt rfl rfl rfl hdv_X3_wordAt ⟨Nat.le_of_ble_eq_true rfl, Nat.le_of_ble_eq_true rfl⟩) rfl rfl hl.1 rfl (lv_room (Nat.le_of_ble_eq_true rfl)) dX4_digestOfWords_35 ⟨Nat.le_of_ble_eq_true rfl, Nat.le_of_ble_eq_true rfl⟩) hS (fun H locs hP hD hS => ?_)
    have hP : va_P D vwCl (zWT cI cJ h (n, L) (kt, km, kl) (pt, pm, pl) (nu, le, ow, fo, run, wc, lc, tr, cl, tm, ms) (yl, yc, yt, co, pa, su, sc) mc ++ R) _ := hP
    have hD : va_D (zAb B) (zWT cI cJ h (n, L) (kt, km, kl) (pt, pm, pl) (nu, le, ow, fo, run, wc, lc, tr, cl, tm, ms) (yl, yc, yt, co, pa, su, sc) mc ++ R) := hD
    refine zcl (zrS (As := [.long (zdW L (zmx d (nI n).toInt64) j), .long (L j)]) (rest := []) ⟨hx, hb, hml, hown, hts⟩ (zS hP hD hK hE hB hS) (c_X4_mixed  ) (va_cwS 2 hts gX4_digestOfWords_X4_mixed rfl rfl rfl hds_X4_mixed ⟨Nat.le_of_ble_eq_true rfl, Nat.le_of_ble_eq_true rfl⟩) rfl rfl hl.1 rfl (lv_room (Nat.le_of_ble_eq_true rfl)) dX4_digestOfWords_38 ⟨Nat.le_of_ble_eq_true rfl, Nat.le_of_ble_eq_true rfl⟩) hS (fun H locs hP hD hS => ?_)
    have hP : va_P D vwCl (zWT cI cJ h (n, L) (kt, km, kl) (pt, pm, pl) (nu, le, ow, fo, run, wc, lc, tr, cl, tm, ms) (yl, yc, yt, co, pa, su, sc) mc ++ R) _ := hP
    have hD : va_D (zAb B) (zWT cI cJ h (n, L) (kt, km, kl) (pt, pm, pl) (nu, le, ow, fo, run, wc, lc, tr, cl, tm, ms) (yl, yc, yt, co, pa, su, sc) mc ++ R) := hD
    refine lv_lstore_n (lv' := [(3, .long (zmx (zdW L (zmx d (nI n).toInt64) j) (L j))), (5, .int (nI j)), (0, .ref (h 0)), (1, .long d)]) hx hb dX4_digestOfWords_41 rfl hl (by decide) rfl (fun ls hl => ?_)
    refine lv_iinc (v := (nI (j + 1))) (lv' := [(5, .int (nI (j + 1))), (3, .long (zmx (zdW L (zmx d (nI n).toInt64) j) (L j))), (0, .ref (h 0)), (1, .long d)]) hx hb dX4_digestOfWords_42 hl (k := 1) rfl (nI_add j 1) (by decide) rfl (fun ls hl => ?_)
    refine lv_goto (tgt := 16) hx hb dX4_digestOfWords_45 (by decide) ?_
    exact ih (j + 1, (zmx (zdW L (zmx d (nI n).toInt64) j) (L j))) (⟨by omega, rfl⟩) (by omega) _ _ _ hP hD hS (lv_sub hl [0, 1, 2, 3] rfl)

set_option maxHeartbeats 4000000 in
set_option maxRecDepth 100000 in
theorem c_X4_digestOfRecord_k {l : Launch} {B kr kp : Nat} {D : va_G} {cI cJ cZ : ClassId} {h : Nat → Nat} {R : va_W} {n : Nat} {L : Nat → Int64} {kt : Nat → Int32} {km : Nat → Int32} {kl : Nat → Int32} {pt : Nat → Int32} {pm : Nat → Int32} {pl : Nat → Int32} {nu : Nat → Int32} {le : Nat → Int32} {ow : Nat → Int32} {fo : Nat → Int32} {run : Bool} {wc : Nat} {lc : Nat} {tr : Nat} {cl : Nat} {tm : Nat} {ms : Nat} {yl : Nat → Int32} {yc : Nat → Int32} {yt : Nat → Int32} {co : Nat} {pa : Int32} {su : Nat} {sc : Nat} {mc : Nat → Int32} {d : Int64} {k : Nat}   (hk : k < 26) : Met l yX4_digestOfRecord wsX4_digestOfRecord ({ frames := 2, cells := 0, slots := 0, locals := 43 }) (zPc B kr kp D (zTy cI cJ cZ) (zWT cI cJ h (n, L) (kt, km, kl) (pt, pm, pl) (nu, le, ow, fo, run, wc, lc, tr, cl, tm, ms) (yl, yc, yt, co, pa, su, sc) mc ++ R) [.long d, .ref (h 3), .int (nI k)]) (zQl B D (zWT cI cJ h (n, L) (kt, km, kl) (pt, pm, pl) (nu, le, ow, fo, run, wc, lc, tr, cl, tm, ms) (yl, yc, yt, co, pa, su, sc) mc ++ R) (zdr d (kt k) (km k) (kl k))) 0 0 (zAb B) := by
  refine Met.ofW (cc := cX4_digestOfRecord) (maxL := 7) (ret := (some .long)) (by decide) rfl ?_
  intro p e s m args below meth c s₁ B0 hml hv
  obtain ⟨rfl, hP, hD, hK, hE, hB⟩ := hv
  have hx := B0.exec
  have hb := B0.bytes
  have hr := B0.returns
  have hts := atoms_spec (ws := wsX4_digestOfRecord) B0.pre
  have hown : s.vm.findClass RX4 = some m.cls := findClass_of_methodNamed B0.named
  have hlocks := B0.notSynchronized
  have hA : ∀ q : Nat, s.heap.size ≤ q → zAb B q := fun q hq => Nat.le_trans hB hq
  have hS : va_S (zAb B) s.heap s.heap [] := va_S.rf
  have hl := lv_entry ([.long d, .ref (h 3), .int (nI k)]) (n := 7) (Nat.le_of_ble_eq_true rfl)
  rw [lg_entry_eq]
  generalize (lg_sl ([.long d, .ref (h 3), .int (nI k)]) ++ List.replicate (7 - (lg_sl ([.long d, .ref (h 3), .int (nI k)])).length) Slot.unset).toArray = ls at hl ⊢
  have hl : lv_has ls 7 [(0, .long d), (2, .ref (h 3)), (3, .int (nI k))] := hl
  have hP : va_P D vwCl (zWT cI cJ h (n, L) (kt, km, kl) (pt, pm, pl) (nu, le, ow, fo, run, wc, lc, tr, cl, tm, ms) (yl, yc, yt, co, pa, su, sc) mc ++ R) s.heap := hP
  have hD : va_D (zAb B) (zWT cI cJ h (n, L) (kt, km, kl) (pt, pm, pl) (nu, le, ow, fo, run, wc, lc, tr, cl, tm, ms) (yl, yc, yt, co, pa, su, sc) mc ++ R) := hD
  refine lv_lload_n hx hb dX4_digestOfRecord_0 rfl (lv_at hl 0 rfl) ?_
  refine lv_lstore (lv' := [(4, .long d), (0, .long d), (2, .ref (h 3)), (3, .int (nI k))]) hx hb dX4_digestOfRecord_1 hl (by decide) rfl (fun ls hl => ?_)
  refine lv_iconst (v := 0) hx hb dX4_digestOfRecord_3 (by decide) ?_
  refine lv_istore (lv' := [(6, .int 0), (4, .long d), (0, .long d), (2, .ref (h 3)), (3, .int (nI k))]) hx hb dX4_digestOfRecord_4 hl (by decide) rfl (fun ls hl => ?_)
  refine lv_iload hx hb dX4_digestOfRecord_6 (lv_at hl 0 rfl) ?_
  refine lv_iconst (v := 2) hx hb dX4_digestOfRecord_8 (by decide) ?_
  refine lv_icmp_gt (tgt := 33) hx hb dX4_digestOfRecord_9 (by decide) (fun c_1 => ?_) (fun c_1 => ?_)
  · skip
    exfalso; first | omega | (revert c_1; decide) | (exact absurd rfl c_1) | simp_all
  · skip
    refine lv_lload hx hb dX4_digestOfRecord_12 (lv_at hl 1 rfl) ?_
    refine lv_aload_n hx hb dX4_digestOfRecord_14 rfl (lv_at hl 3 rfl) ?_
    refine lv_iload_n hx hb dX4_digestOfRecord_15 rfl (lv_at hl 4 rfl) ?_
    refine lv_iload hx hb dX4_digestOfRecord_16 (lv_at hl 0 rfl) ?_
    refine zci (zrV (As := [.int (nI k), .int 0]) (rest := [.long d]) ⟨hx, hb, hml, hown, hts⟩ (zV 3 hP hD hK hE hB hS rfl rfl) (c_X1_tell_k0 (k := k) (by omega)) (cwV 2 hts gX4_digestOfRecord_X1_tell rfl rfl rfl hdv_X1_tell ⟨Nat.le_of_ble_eq_true rfl, Nat.le_of_ble_eq_true rfl⟩) rfl rfl hl.1 rfl (lv_room (Nat.le_of_ble_eq_true rfl)) dX4_digestOfRecord_18 ⟨Nat.le_of_ble_eq_true rfl, Nat.le_of_ble_eq_true rfl⟩) hS (fun H locs hP hD hS => ?_)
    have hP : va_P D vwCl (zWT cI cJ h (n, L) (kt, km, kl) (pt, pm, pl) (nu, le, ow, fo, run, wc, lc, tr, cl, tm, ms) (yl, yc, yt, co, pa, su, sc) mc ++ R) _ := hP
    have hD : va_D (zAb B) (zWT cI cJ h (n, L) (kt, km, kl) (pt, pm, pl) (nu, le, ow, fo, run, wc, lc, tr, cl, tm, ms) (yl, yc, yt, co, pa, su, sc) mc ++ R) := hD
    refine lv_i2l (v := ((kt k)).toInt64) hx hb dX4_digestOfRecord_21 rfl ?_
    refine zcl (zrS (As := [.long d, .long (((kt k)).toInt64)]) (rest := []) ⟨hx, hb, hml, hown, hts⟩ (zS hP hD hK hE hB hS) (c_X4_mixed  ) (va_cwS 2 hts gX4_digestOfRecord_X4_mixed rfl rfl rfl hds_X4_mixed ⟨Nat.le_of_ble_eq_true rfl, Nat.le_of_ble_eq_true rfl⟩) rfl rfl hl.1 rfl (lv_room (Nat.le_of_ble_eq_true rfl)) dX4_digestOfRecord_22 ⟨Nat.le_of_ble_eq_true rfl, Nat.le_of_ble_eq_true rfl⟩) hS (fun H locs hP hD hS => ?_)
    have hP : va_P D vwCl (zWT cI cJ h (n, L) (kt, km, kl) (pt, pm, pl) (nu, le, ow, fo, run, wc, lc, tr, cl, tm, ms) (yl, yc, yt, co, pa, su, sc) mc ++ R) _ := hP
    have hD : va_D (zAb B) (zWT cI cJ h (n, L) (kt, km, kl) (pt, pm, pl) (nu, le, ow, fo, run, wc, lc, tr, cl, tm, ms) (yl, yc, yt, co, pa, su, sc) mc ++ R) := hD
    refine lv_lstore (lv' := [(4, .long (zmx d (((kt k)).toInt64))), (6, .int 0), (0, .long d), (2, .ref (h 3)), (3, .int (nI k))]) hx hb dX4_digestOfRecord_25 hl (by decide) rfl (fun ls hl => ?_)
    refine lv_iinc (v := 1) (lv' := [(6, .int 1), (4, .long (zmx d (((kt k)).toInt64))), (0, .long d), (2, .ref (h 3)), (3, .int (nI k))]) hx hb dX4_digestOfRecord_27 hl (k := 1) rfl (by decide) (by decide) rfl (fun ls hl => ?_)
    refine lv_goto (tgt := 6) hx hb dX4_digestOfRecord_30 (by decide) ?_
    refine lv_iload hx hb dX4_digestOfRecord_6 (lv_at hl 0 rfl) ?_
    refine lv_iconst (v := 2) hx hb dX4_digestOfRecord_8 (by decide) ?_
    refine lv_icmp_gt (tgt := 33) hx hb dX4_digestOfRecord_9 (by decide) (fun c_2 => ?_) (fun c_2 => ?_)
    · skip
      exfalso; first | omega | (revert c_2; decide) | (exact absurd rfl c_2) | simp_all
    · skip
      refine lv_lload hx hb dX4_digestOfRecord_12 (lv_at hl 1 rfl) ?_
      refine lv_aload_n hx hb dX4_digestOfRecord_14 rfl (lv_at hl 3 rfl) ?_
      refine lv_iload_n hx hb dX4_digestOfRecord_15 rfl (lv_at hl 4 rfl) ?_
      refine lv_iload hx hb dX4_digestOfRecord_16 (lv_at hl 0 rfl) ?_
      refine zci (zrV (As := [.int (nI k), .int 1]) (rest := [.long (zmx d (((kt k)).toInt64))]) ⟨hx, hb, hml, hown, hts⟩ (zV 3 hP hD hK hE hB hS rfl rfl) (c_X1_tell_k1 (k := k) (by omega)) (cwV 2 hts gX4_digestOfRecord_X1_tell rfl rfl rfl hdv_X1_tell ⟨Nat.le_of_ble_eq_true rfl, Nat.le_of_ble_eq_true rfl⟩) rfl rfl hl.1 rfl (lv_room (Nat.le_of_ble_eq_true rfl)) dX4_digestOfRecord_18 ⟨Nat.le_of_ble_eq_true rfl, Nat.le_of_ble_eq_true rfl⟩) hS (fun H locs hP hD hS => ?_)
      have hP : va_P D vwCl (zWT cI cJ h (n, L) (kt, km, kl) (pt, pm, pl) (nu, le, ow, fo, run, wc, lc, tr, cl, tm, ms) (yl, yc, yt, co, pa, su, sc) mc ++ R) _ := hP
      have hD : va_D (zAb B) (zWT cI cJ h (n, L) (kt, km, kl) (pt, pm, pl) (nu, le, ow, fo, run, wc, lc, tr, cl, tm, ms) (yl, yc, yt, co, pa, su, sc) mc ++ R) := hD
      refine lv_i2l (v := ((km k)).toInt64) hx hb dX4_digestOfRecord_21 rfl ?_
      refine zcl (zrS (As := [.long (zmx d (((kt k)).toInt64)), .long (((km k)).toInt64)]) (rest := []) ⟨hx, hb, hml, hown, hts⟩ (zS hP hD hK hE hB hS) (c_X4_mixed  ) (va_cwS 2 hts gX4_digestOfRecord_X4_mixed rfl rfl rfl hds_X4_mixed ⟨Nat.le_of_ble_eq_true rfl, Nat.le_of_ble_eq_true rfl⟩) rfl rfl hl.1 rfl (lv_room (Nat.le_of_ble_eq_true rfl)) dX4_digestOfRecord_22 ⟨Nat.le_of_ble_eq_true rfl, Nat.le_of_ble_eq_true rfl⟩) hS (fun H locs hP hD hS => ?_)
      have hP : va_P D vwCl (zWT cI cJ h (n, L) (kt, km, kl) (pt, pm, pl) (nu, le, ow, fo, run, wc, lc, tr, cl, tm, ms) (yl, yc, yt, co, pa, su, sc) mc ++ R) _ := hP
      have hD : va_D (zAb B) (zWT cI cJ h (n, L) (kt, km, kl) (pt, pm, pl) (nu, le, ow, fo, run, wc, lc, tr, cl, tm, ms) (yl, yc, yt, co, pa, su, sc) mc ++ R) := hD
      refine lv_lstore (lv' := [(4, .long (zmx (zmx d (((kt k)).toInt64)) (((km k)).toInt64))), (6, .int 1), (0, .long d), (2, .ref (h 3)), (3, .int (nI k))]) hx hb dX4_digestOfRecord_25 hl (by decide) rfl (fun ls hl => ?_)
      refine lv_iinc (v := 2) (lv' := [(6, .int 2), (4, .long (zmx (zmx d (((kt k)).toInt64)) (((km k)).toInt64))), (0, .long d), (2, .ref (h 3)), (3, .int (nI k))]) hx hb dX4_digestOfRecord_27 hl (k := 1) rfl (by decide) (by decide) rfl (fun ls hl => ?_)
      refine lv_goto (tgt := 6) hx hb dX4_digestOfRecord_30 (by decide) ?_
      refine lv_iload hx hb dX4_digestOfRecord_6 (lv_at hl 0 rfl) ?_
      refine lv_iconst (v := 2) hx hb dX4_digestOfRecord_8 (by decide) ?_
      refine lv_icmp_gt (tgt := 33) hx hb dX4_digestOfRecord_9 (by decide) (fun c_3 => ?_) (fun c_3 => ?_)
      · skip
        exfalso; first | omega | (revert c_3; decide) | (exact absurd rfl c_3) | simp_all
      · skip
        refine lv_lload hx hb dX4_digestOfRecord_12 (lv_at hl 1 rfl) ?_
        refine lv_aload_n hx hb dX4_digestOfRecord_14 rfl (lv_at hl 3 rfl) ?_
        refine lv_iload_n hx hb dX4_digestOfRecord_15 rfl (lv_at hl 4 rfl) ?_
        refine lv_iload hx hb dX4_digestOfRecord_16 (lv_at hl 0 rfl) ?_
        refine zci (zrV (As := [.int (nI k), .int 2]) (rest := [.long (zmx (zmx d (((kt k)).toInt64)) (((km k)).toInt64))]) ⟨hx, hb, hml, hown, hts⟩ (zV 3 hP hD hK hE hB hS rfl rfl) (c_X1_tell_k2 (k := k) (by omega)) (cwV 2 hts gX4_digestOfRecord_X1_tell rfl rfl rfl hdv_X1_tell ⟨Nat.le_of_ble_eq_true rfl, Nat.le_of_ble_eq_true rfl⟩) rfl rfl hl.1 rfl (lv_room (Nat.le_of_ble_eq_true rfl)) dX4_digestOfRecord_18 ⟨Nat.le_of_ble_eq_true rfl, Nat.le_of_ble_eq_true rfl⟩) hS (fun H locs hP hD hS => ?_)
        have hP : va_P D vwCl (zWT cI cJ h (n, L) (kt, km, kl) (pt, pm, pl) (nu, le, ow, fo, run, wc, lc, tr, cl, tm, ms) (yl, yc, yt, co, pa, su, sc) mc ++ R) _ := hP
        have hD : va_D (zAb B) (zWT cI cJ h (n, L) (kt, km, kl) (pt, pm, pl) (nu, le, ow, fo, run, wc, lc, tr, cl, tm, ms) (yl, yc, yt, co, pa, su, sc) mc ++ R) := hD
        refine lv_i2l (v := ((kl k)).toInt64) hx hb dX4_digestOfRecord_21 rfl ?_
        refine zcl (zrS (As := [.long (zmx (zmx d (((kt k)).toInt64)) (((km k)).toInt64)), .long (((kl k)).toInt64)]) (rest := []) ⟨hx, hb, hml, hown, hts⟩ (zS hP hD hK hE hB hS) (c_X4_mixed  ) (va_cwS 2 hts gX4_digestOfRecord_X4_mixed rfl rfl rfl hds_X4_mixed ⟨Nat.le_of_ble_eq_true rfl, Nat.le_of_ble_eq_true rfl⟩) rfl rfl hl.1 rfl (lv_room (Nat.le_of_ble_eq_true rfl)) dX4_digestOfRecord_22 ⟨Nat.le_of_ble_eq_true rfl, Nat.le_of_ble_eq_true rfl⟩) hS (fun H locs hP hD hS => ?_)
        have hP : va_P D vwCl (zWT cI cJ h (n, L) (kt, km, kl) (pt, pm, pl) (nu, le, ow, fo, run, wc, lc, tr, cl, tm, ms) (yl, yc, yt, co, pa, su, sc) mc ++ R) _ := hP
        have hD : va_D (zAb B) (zWT cI cJ h (n, L) (kt, km, kl) (pt, pm, pl) (nu, le, ow, fo, run, wc, lc, tr, cl, tm, ms) (yl, yc, yt, co, pa, su, sc) mc ++ R) := hD
        refine lv_lstore (lv' := [(4, .long (zmx (zmx (zmx d (((kt k)).toInt64)) (((km k)).toInt64)) (((kl k)).toInt64))), (6, .int 2), (0, .long d), (2, .ref (h 3)), (3, .int (nI k))]) hx hb dX4_digestOfRecord_25 hl (by decide) rfl (fun ls hl => ?_)
        refine lv_iinc (v := 3) (lv' := [(6, .int 3), (4, .long (zmx (zmx (zmx d (((kt k)).toInt64)) (((km k)).toInt64)) (((kl k)).toInt64))), (0, .long d), (2, .ref (h 3)), (3, .int (nI k))]) hx hb dX4_digestOfRecord_27 hl (k := 1) rfl (by decide) (by decide) rfl (fun ls hl => ?_)
        refine lv_goto (tgt := 6) hx hb dX4_digestOfRecord_30 (by decide) ?_
        refine lv_iload hx hb dX4_digestOfRecord_6 (lv_at hl 0 rfl) ?_
        refine lv_iconst (v := 2) hx hb dX4_digestOfRecord_8 (by decide) ?_
        refine lv_icmp_gt (tgt := 33) hx hb dX4_digestOfRecord_9 (by decide) (fun c_4 => ?_) (fun c_4 => ?_)
        · skip
          refine lv_lload hx hb dX4_digestOfRecord_33 (lv_at hl 1 rfl) ?_
          exact W.lret (v := (zmx (zmx (zmx d (((kt k)).toInt64)) (((km k)).toInt64)) (((kl k)).toInt64))) hx hb hr (fun t ht hW => ⟨⟨_, (), rfl, rfl, by rw [ht]; exact hP, hD⟩, hS.F ht⟩) hS.2.2 dX4_digestOfRecord_35
        · skip
          exfalso; first | omega | (revert c_4; decide) | (exact absurd rfl c_4) | simp_all

set_option maxHeartbeats 4000000 in
set_option maxRecDepth 100000 in
theorem c_X4_digestOfRecord_p {l : Launch} {B kr kp : Nat} {D : va_G} {cI cJ cZ : ClassId} {h : Nat → Nat} {R : va_W} {n : Nat} {L : Nat → Int64} {kt : Nat → Int32} {km : Nat → Int32} {kl : Nat → Int32} {pt : Nat → Int32} {pm : Nat → Int32} {pl : Nat → Int32} {nu : Nat → Int32} {le : Nat → Int32} {ow : Nat → Int32} {fo : Nat → Int32} {run : Bool} {wc : Nat} {lc : Nat} {tr : Nat} {cl : Nat} {tm : Nat} {ms : Nat} {yl : Nat → Int32} {yc : Nat → Int32} {yt : Nat → Int32} {co : Nat} {pa : Int32} {su : Nat} {sc : Nat} {mc : Nat → Int32} {d : Int64} {k : Nat}   (hk : k < 676) : Met l yX4_digestOfRecord wsX4_digestOfRecord ({ frames := 2, cells := 0, slots := 0, locals := 43 }) (zPc B kr kp D (zTy cI cJ cZ) (zWT cI cJ h (n, L) (kt, km, kl) (pt, pm, pl) (nu, le, ow, fo, run, wc, lc, tr, cl, tm, ms) (yl, yc, yt, co, pa, su, sc) mc ++ R) [.long d, .ref (h 7), .int (nI k)]) (zQl B D (zWT cI cJ h (n, L) (kt, km, kl) (pt, pm, pl) (nu, le, ow, fo, run, wc, lc, tr, cl, tm, ms) (yl, yc, yt, co, pa, su, sc) mc ++ R) (zdr d (pt k) (pm k) (pl k))) 0 0 (zAb B) := by
  refine Met.ofW (cc := cX4_digestOfRecord) (maxL := 7) (ret := (some .long)) (by decide) rfl ?_
  intro p e s m args below meth c s₁ B0 hml hv
  obtain ⟨rfl, hP, hD, hK, hE, hB⟩ := hv
  have hx := B0.exec
  have hb := B0.bytes
  have hr := B0.returns
  have hts := atoms_spec (ws := wsX4_digestOfRecord) B0.pre
  have hown : s.vm.findClass RX4 = some m.cls := findClass_of_methodNamed B0.named
  have hlocks := B0.notSynchronized
  have hA : ∀ q : Nat, s.heap.size ≤ q → zAb B q := fun q hq => Nat.le_trans hB hq
  have hS : va_S (zAb B) s.heap s.heap [] := va_S.rf
  have hl := lv_entry ([.long d, .ref (h 7), .int (nI k)]) (n := 7) (Nat.le_of_ble_eq_true rfl)
  rw [lg_entry_eq]
  generalize (lg_sl ([.long d, .ref (h 7), .int (nI k)]) ++ List.replicate (7 - (lg_sl ([.long d, .ref (h 7), .int (nI k)])).length) Slot.unset).toArray = ls at hl ⊢
  have hl : lv_has ls 7 [(0, .long d), (2, .ref (h 7)), (3, .int (nI k))] := hl
  have hP : va_P D vwCl (zWT cI cJ h (n, L) (kt, km, kl) (pt, pm, pl) (nu, le, ow, fo, run, wc, lc, tr, cl, tm, ms) (yl, yc, yt, co, pa, su, sc) mc ++ R) s.heap := hP
  have hD : va_D (zAb B) (zWT cI cJ h (n, L) (kt, km, kl) (pt, pm, pl) (nu, le, ow, fo, run, wc, lc, tr, cl, tm, ms) (yl, yc, yt, co, pa, su, sc) mc ++ R) := hD
  refine lv_lload_n hx hb dX4_digestOfRecord_0 rfl (lv_at hl 0 rfl) ?_
  refine lv_lstore (lv' := [(4, .long d), (0, .long d), (2, .ref (h 7)), (3, .int (nI k))]) hx hb dX4_digestOfRecord_1 hl (by decide) rfl (fun ls hl => ?_)
  refine lv_iconst (v := 0) hx hb dX4_digestOfRecord_3 (by decide) ?_
  refine lv_istore (lv' := [(6, .int 0), (4, .long d), (0, .long d), (2, .ref (h 7)), (3, .int (nI k))]) hx hb dX4_digestOfRecord_4 hl (by decide) rfl (fun ls hl => ?_)
  refine lv_iload hx hb dX4_digestOfRecord_6 (lv_at hl 0 rfl) ?_
  refine lv_iconst (v := 2) hx hb dX4_digestOfRecord_8 (by decide) ?_
  refine lv_icmp_gt (tgt := 33) hx hb dX4_digestOfRecord_9 (by decide) (fun c_1 => ?_) (fun c_1 => ?_)
  · skip
    exfalso; first | omega | (revert c_1; decide) | (exact absurd rfl c_1) | simp_all
  · skip
    refine lv_lload hx hb dX4_digestOfRecord_12 (lv_at hl 1 rfl) ?_
    refine lv_aload_n hx hb dX4_digestOfRecord_14 rfl (lv_at hl 3 rfl) ?_
    refine lv_iload_n hx hb dX4_digestOfRecord_15 rfl (lv_at hl 4 rfl) ?_
    refine lv_iload hx hb dX4_digestOfRecord_16 (lv_at hl 0 rfl) ?_
    refine zci (zrV (As := [.int (nI k), .int 0]) (rest := [.long d]) ⟨hx, hb, hml, hown, hts⟩ (zV 7 hP hD hK hE hB hS rfl rfl) (c_X1_tell_p0 (k := k) (by omega)) (cwV 2 hts gX4_digestOfRecord_X1_tell rfl rfl rfl hdv_X1_tell ⟨Nat.le_of_ble_eq_true rfl, Nat.le_of_ble_eq_true rfl⟩) rfl rfl hl.1 rfl (lv_room (Nat.le_of_ble_eq_true rfl)) dX4_digestOfRecord_18 ⟨Nat.le_of_ble_eq_true rfl, Nat.le_of_ble_eq_true rfl⟩) hS (fun H locs hP hD hS => ?_)
    have hP : va_P D vwCl (zWT cI cJ h (n, L) (kt, km, kl) (pt, pm, pl) (nu, le, ow, fo, run, wc, lc, tr, cl, tm, ms) (yl, yc, yt, co, pa, su, sc) mc ++ R) _ := hP
    have hD : va_D (zAb B) (zWT cI cJ h (n, L) (kt, km, kl) (pt, pm, pl) (nu, le, ow, fo, run, wc, lc, tr, cl, tm, ms) (yl, yc, yt, co, pa, su, sc) mc ++ R) := hD
    refine lv_i2l (v := ((pt k)).toInt64) hx hb dX4_digestOfRecord_21 rfl ?_
    refine zcl (zrS (As := [.long d, .long (((pt k)).toInt64)]) (rest := []) ⟨hx, hb, hml, hown, hts⟩ (zS hP hD hK hE hB hS) (c_X4_mixed  ) (va_cwS 2 hts gX4_digestOfRecord_X4_mixed rfl rfl rfl hds_X4_mixed ⟨Nat.le_of_ble_eq_true rfl, Nat.le_of_ble_eq_true rfl⟩) rfl rfl hl.1 rfl (lv_room (Nat.le_of_ble_eq_true rfl)) dX4_digestOfRecord_22 ⟨Nat.le_of_ble_eq_true rfl, Nat.le_of_ble_eq_true rfl⟩) hS (fun H locs hP hD hS => ?_)
    have hP : va_P D vwCl (zWT cI cJ h (n, L) (kt, km, kl) (pt, pm, pl) (nu, le, ow, fo, run, wc, lc, tr, cl, tm, ms) (yl, yc, yt, co, pa, su, sc) mc ++ R) _ := hP
    have hD : va_D (zAb B) (zWT cI cJ h (n, L) (kt, km, kl) (pt, pm, pl) (nu, le, ow, fo, run, wc, lc, tr, cl, tm, ms) (yl, yc, yt, co, pa, su, sc) mc ++ R) := hD
    refine lv_lstore (lv' := [(4, .long (zmx d (((pt k)).toInt64))), (6, .int 0), (0, .long d), (2, .ref (h 7)), (3, .int (nI k))]) hx hb dX4_digestOfRecord_25 hl (by decide) rfl (fun ls hl => ?_)
    refine lv_iinc (v := 1) (lv' := [(6, .int 1), (4, .long (zmx d (((pt k)).toInt64))), (0, .long d), (2, .ref (h 7)), (3, .int (nI k))]) hx hb dX4_digestOfRecord_27 hl (k := 1) rfl (by decide) (by decide) rfl (fun ls hl => ?_)
    refine lv_goto (tgt := 6) hx hb dX4_digestOfRecord_30 (by decide) ?_
    refine lv_iload hx hb dX4_digestOfRecord_6 (lv_at hl 0 rfl) ?_
    refine lv_iconst (v := 2) hx hb dX4_digestOfRecord_8 (by decide) ?_
    refine lv_icmp_gt (tgt := 33) hx hb dX4_digestOfRecord_9 (by decide) (fun c_2 => ?_) (fun c_2 => ?_)
    · skip
      exfalso; first | omega | (revert c_2; decide) | (exact absurd rfl c_2) | simp_all
    · skip
      refine lv_lload hx hb dX4_digestOfRecord_12 (lv_at hl 1 rfl) ?_
      refine lv_aload_n hx hb dX4_digestOfRecord_14 rfl (lv_at hl 3 rfl) ?_
      refine lv_iload_n hx hb dX4_digestOfRecord_15 rfl (lv_at hl 4 rfl) ?_
      refine lv_iload hx hb dX4_digestOfRecord_16 (lv_at hl 0 rfl) ?_
      refine zci (zrV (As := [.int (nI k), .int 1]) (rest := [.long (zmx d (((pt k)).toInt64))]) ⟨hx, hb, hml, hown, hts⟩ (zV 7 hP hD hK hE hB hS rfl rfl) (c_X1_tell_p1 (k := k) (by omega)) (cwV 2 hts gX4_digestOfRecord_X1_tell rfl rfl rfl hdv_X1_tell ⟨Nat.le_of_ble_eq_true rfl, Nat.le_of_ble_eq_true rfl⟩) rfl rfl hl.1 rfl (lv_room (Nat.le_of_ble_eq_true rfl)) dX4_digestOfRecord_18 ⟨Nat.le_of_ble_eq_true rfl, Nat.le_of_ble_eq_true rfl⟩) hS (fun H locs hP hD hS => ?_)
      have hP : va_P D vwCl (zWT cI cJ h (n, L) (kt, km, kl) (pt, pm, pl) (nu, le, ow, fo, run, wc, lc, tr, cl, tm, ms) (yl, yc, yt, co, pa, su, sc) mc ++ R) _ := hP
      have hD : va_D (zAb B) (zWT cI cJ h (n, L) (kt, km, kl) (pt, pm, pl) (nu, le, ow, fo, run, wc, lc, tr, cl, tm, ms) (yl, yc, yt, co, pa, su, sc) mc ++ R) := hD
      refine lv_i2l (v := ((pm k)).toInt64) hx hb dX4_digestOfRecord_21 rfl ?_
      refine zcl (zrS (As := [.long (zmx d (((pt k)).toInt64)), .long (((pm k)).toInt64)]) (rest := []) ⟨hx, hb, hml, hown, hts⟩ (zS hP hD hK hE hB hS) (c_X4_mixed  ) (va_cwS 2 hts gX4_digestOfRecord_X4_mixed rfl rfl rfl hds_X4_mixed ⟨Nat.le_of_ble_eq_true rfl, Nat.le_of_ble_eq_true rfl⟩) rfl rfl hl.1 rfl (lv_room (Nat.le_of_ble_eq_true rfl)) dX4_digestOfRecord_22 ⟨Nat.le_of_ble_eq_true rfl, Nat.le_of_ble_eq_true rfl⟩) hS (fun H locs hP hD hS => ?_)
      have hP : va_P D vwCl (zWT cI cJ h (n, L) (kt, km, kl) (pt, pm, pl) (nu, le, ow, fo, run, wc, lc, tr, cl, tm, ms) (yl, yc, yt, co, pa, su, sc) mc ++ R) _ := hP
      have hD : va_D (zAb B) (zWT cI cJ h (n, L) (kt, km, kl) (pt, pm, pl) (nu, le, ow, fo, run, wc, lc, tr, cl, tm, ms) (yl, yc, yt, co, pa, su, sc) mc ++ R) := hD
      refine lv_lstore (lv' := [(4, .long (zmx (zmx d (((pt k)).toInt64)) (((pm k)).toInt64))), (6, .int 1), (0, .long d), (2, .ref (h 7)), (3, .int (nI k))]) hx hb dX4_digestOfRecord_25 hl (by decide) rfl (fun ls hl => ?_)
      refine lv_iinc (v := 2) (lv' := [(6, .int 2), (4, .long (zmx (zmx d (((pt k)).toInt64)) (((pm k)).toInt64))), (0, .long d), (2, .ref (h 7)), (3, .int (nI k))]) hx hb dX4_digestOfRecord_27 hl (k := 1) rfl (by decide) (by decide) rfl (fun ls hl => ?_)
      refine lv_goto (tgt := 6) hx hb dX4_digestOfRecord_30 (by decide) ?_
      refine lv_iload hx hb dX4_digestOfRecord_6 (lv_at hl 0 rfl) ?_
      refine lv_iconst (v := 2) hx hb dX4_digestOfRecord_8 (by decide) ?_
      refine lv_icmp_gt (tgt := 33) hx hb dX4_digestOfRecord_9 (by decide) (fun c_3 => ?_) (fun c_3 => ?_)
      · skip
        exfalso; first | omega | (revert c_3; decide) | (exact absurd rfl c_3) | simp_all
      · skip
        refine lv_lload hx hb dX4_digestOfRecord_12 (lv_at hl 1 rfl) ?_
        refine lv_aload_n hx hb dX4_digestOfRecord_14 rfl (lv_at hl 3 rfl) ?_
        refine lv_iload_n hx hb dX4_digestOfRecord_15 rfl (lv_at hl 4 rfl) ?_
        refine lv_iload hx hb dX4_digestOfRecord_16 (lv_at hl 0 rfl) ?_
        refine zci (zrV (As := [.int (nI k), .int 2]) (rest := [.long (zmx (zmx d (((pt k)).toInt64)) (((pm k)).toInt64))]) ⟨hx, hb, hml, hown, hts⟩ (zV 7 hP hD hK hE hB hS rfl rfl) (c_X1_tell_p2 (k := k) (by omega)) (cwV 2 hts gX4_digestOfRecord_X1_tell rfl rfl rfl hdv_X1_tell ⟨Nat.le_of_ble_eq_true rfl, Nat.le_of_ble_eq_true rfl⟩) rfl rfl hl.1 rfl (lv_room (Nat.le_of_ble_eq_true rfl)) dX4_digestOfRecord_18 ⟨Nat.le_of_ble_eq_true rfl, Nat.le_of_ble_eq_true rfl⟩) hS (fun H locs hP hD hS => ?_)
        have hP : va_P D vwCl (zWT cI cJ h (n, L) (kt, km, kl) (pt, pm, pl) (nu, le, ow, fo, run, wc, lc, tr, cl, tm, ms) (yl, yc, yt, co, pa, su, sc) mc ++ R) _ := hP
        have hD : va_D (zAb B) (zWT cI cJ h (n, L) (kt, km, kl) (pt, pm, pl) (nu, le, ow, fo, run, wc, lc, tr, cl, tm, ms) (yl, yc, yt, co, pa, su, sc) mc ++ R) := hD
        refine lv_i2l (v := ((pl k)).toInt64) hx hb dX4_digestOfRecord_21 rfl ?_
        refine zcl (zrS (As := [.long (zmx (zmx d (((pt k)).toInt64)) (((pm k)).toInt64)), .long (((pl k)).toInt64)]) (rest := []) ⟨hx, hb, hml, hown, hts⟩ (zS hP hD hK hE hB hS) (c_X4_mixed  ) (va_cwS 2 hts gX4_digestOfRecord_X4_mixed rfl rfl rfl hds_X4_mixed ⟨Nat.le_of_ble_eq_true rfl, Nat.le_of_ble_eq_true rfl⟩) rfl rfl hl.1 rfl (lv_room (Nat.le_of_ble_eq_true rfl)) dX4_digestOfRecord_22 ⟨Nat.le_of_ble_eq_true rfl, Nat.le_of_ble_eq_true rfl⟩) hS (fun H locs hP hD hS => ?_)
        have hP : va_P D vwCl (zWT cI cJ h (n, L) (kt, km, kl) (pt, pm, pl) (nu, le, ow, fo, run, wc, lc, tr, cl, tm, ms) (yl, yc, yt, co, pa, su, sc) mc ++ R) _ := hP
        have hD : va_D (zAb B) (zWT cI cJ h (n, L) (kt, km, kl) (pt, pm, pl) (nu, le, ow, fo, run, wc, lc, tr, cl, tm, ms) (yl, yc, yt, co, pa, su, sc) mc ++ R) := hD
        refine lv_lstore (lv' := [(4, .long (zmx (zmx (zmx d (((pt k)).toInt64)) (((pm k)).toInt64)) (((pl k)).toInt64))), (6, .int 2), (0, .long d), (2, .ref (h 7)), (3, .int (nI k))]) hx hb dX4_digestOfRecord_25 hl (by decide) rfl (fun ls hl => ?_)
        refine lv_iinc (v := 3) (lv' := [(6, .int 3), (4, .long (zmx (zmx (zmx d (((pt k)).toInt64)) (((pm k)).toInt64)) (((pl k)).toInt64))), (0, .long d), (2, .ref (h 7)), (3, .int (nI k))]) hx hb dX4_digestOfRecord_27 hl (k := 1) rfl (by decide) (by decide) rfl (fun ls hl => ?_)
        refine lv_goto (tgt := 6) hx hb dX4_digestOfRecord_30 (by decide) ?_
        refine lv_iload hx hb dX4_digestOfRecord_6 (lv_at hl 0 rfl) ?_
        refine lv_iconst (v := 2) hx hb dX4_digestOfRecord_8 (by decide) ?_
        refine lv_icmp_gt (tgt := 33) hx hb dX4_digestOfRecord_9 (by decide) (fun c_4 => ?_) (fun c_4 => ?_)
        · skip
          refine lv_lload hx hb dX4_digestOfRecord_33 (lv_at hl 1 rfl) ?_
          exact W.lret (v := (zmx (zmx (zmx d (((pt k)).toInt64)) (((pm k)).toInt64)) (((pl k)).toInt64))) hx hb hr (fun t ht hW => ⟨⟨_, (), rfl, rfl, by rw [ht]; exact hP, hD⟩, hS.F ht⟩) hS.2.2 dX4_digestOfRecord_35
        · skip
          exfalso; first | omega | (revert c_4; decide) | (exact absurd rfl c_4) | simp_all

set_option maxHeartbeats 4000000 in
set_option maxRecDepth 100000 in
theorem c_X4_digestOfKnowledge {l : Launch} {B kr kp : Nat} {D : va_G} {cI cJ cZ : ClassId} {h : Nat → Nat} {R : va_W} {n : Nat} {L : Nat → Int64} {kt : Nat → Int32} {km : Nat → Int32} {kl : Nat → Int32} {pt : Nat → Int32} {pm : Nat → Int32} {pl : Nat → Int32} {nu : Nat → Int32} {le : Nat → Int32} {ow : Nat → Int32} {fo : Nat → Int32} {run : Bool} {wc : Nat} {lc : Nat} {tr : Nat} {cl : Nat} {tm : Nat} {ms : Nat} {yl : Nat → Int32} {yc : Nat → Int32} {yt : Nat → Int32} {co : Nat} {pa : Int32} {su : Nat} {sc : Nat} {mc : Nat → Int32} {d : Int64}   (hpt : ∀ p, p < 676 → ∃ k, k < 2147483648 ∧ pt p = nI k) : Met l yX4_digestOfKnowledge wsX4_digestOfKnowledge ({ frames := 3, cells := 0, slots := 0, locals := 69 }) (zPc B kr kp D (zTy cI cJ cZ) (zWT cI cJ h (n, L) (kt, km, kl) (pt, pm, pl) (nu, le, ow, fo, run, wc, lc, tr, cl, tm, ms) (yl, yc, yt, co, pa, su, sc) mc ++ R) [.ref (h 0), .long d]) (zQl B D (zWT cI cJ h (n, L) (kt, km, kl) (pt, pm, pl) (nu, le, ow, fo, run, wc, lc, tr, cl, tm, ms) (yl, yc, yt, co, pa, su, sc) mc ++ R) (zd4 mc (zdP pt pm pl (zdK kt km kl d 26) 676))) 0 0 (zAb B) := by
  refine Met.ofW (cc := cX4_digestOfKnowledge) (maxL := 6) (ret := (some .long)) (by decide) rfl ?_
  intro p e s m args below meth c s₁ B0 hml hv
  obtain ⟨rfl, hP, hD, hK, hE, hB⟩ := hv
  have hx := B0.exec
  have hb := B0.bytes
  have hr := B0.returns
  have hts := atoms_spec (ws := wsX4_digestOfKnowledge) B0.pre
  have hown : s.vm.findClass RX4 = some m.cls := findClass_of_methodNamed B0.named
  have hlocks := B0.notSynchronized
  have hA : ∀ q : Nat, s.heap.size ≤ q → zAb B q := fun q hq => Nat.le_trans hB hq
  have hS : va_S (zAb B) s.heap s.heap [] := va_S.rf
  have hl := lv_entry ([.ref (h 0), .long d]) (n := 6) (Nat.le_of_ble_eq_true rfl)
  rw [lg_entry_eq]
  generalize (lg_sl ([.ref (h 0), .long d]) ++ List.replicate (6 - (lg_sl ([.ref (h 0), .long d])).length) Slot.unset).toArray = ls at hl ⊢
  have hl : lv_has ls 6 [(0, .ref (h 0)), (1, .long d)] := hl
  have hinX4 : ∀ w ∈ wsX40, w ∈ wsX4_digestOfKnowledge := fun _ h => List.mem_cons_of_mem _ (List.mem_append_left _ (List.mem_append_right _ h))
  have hP : va_P D vwCl (zWT cI cJ h (n, L) (kt, km, kl) (pt, pm, pl) (nu, le, ow, fo, run, wc, lc, tr, cl, tm, ms) (yl, yc, yt, co, pa, su, sc) mc ++ R) s.heap := hP
  have hD : va_D (zAb B) (zWT cI cJ h (n, L) (kt, km, kl) (pt, pm, pl) (nu, le, ow, fo, run, wc, lc, tr, cl, tm, ms) (yl, yc, yt, co, pa, su, sc) mc ++ R) := hD
  refine lv_lload_n hx hb dX4_digestOfKnowledge_0 rfl (lv_at hl 1 rfl) ?_
  refine lv_lstore_n (lv' := [(3, .long d), (0, .ref (h 0)), (1, .long d)]) hx hb dX4_digestOfKnowledge_1 rfl hl (by decide) rfl (fun ls hl => ?_)
  refine lv_iconst (v := 0) hx hb dX4_digestOfKnowledge_2 (by decide) ?_
  refine lv_istore (lv' := [(5, .int 0), (3, .long d), (0, .ref (h 0)), (1, .long d)]) hx hb dX4_digestOfKnowledge_3 hl (by decide) rfl (fun ls hl => ?_)
  refine zloop (σ := (Nat) × (Int64)) (nL := 6) (fun x9 => (zWT cI cJ h (n, L) (kt, km, kl) (pt, pm, pl) (nu, le, ow, fo, run, wc, lc, tr, cl, tm, ms) (yl, yc, yt, co, pa, su, sc) mc ++ R)) (fun x9 => [(5, .int (nI x9.1)), (3, .long x9.2), (0, .ref (h 0)), (1, .long d)]) (fun x9 => []) (fun x9 => (x9.1 ≤ 26) ∧ x9.2 = zdK kt km kl d x9.1) (fun x9 => 26 - x9.1) ?_ (0, d) (⟨by omega, rfl⟩) _ _ _ hP hD hS (lv_sub hl [0, 1, 2, 3] rfl)
  rintro ⟨j, z⟩ hI ih H locs ls hP hD hS hl
  try dsimp only at hI ih hP hD hS hl ⊢
  obtain ⟨hI, rfl⟩ := hI
  refine lv_iload hx hb dX4_digestOfKnowledge_5 (lv_at hl 0 rfl) ?_
  refine lv_bipush (v := 26) hx hb dX4_digestOfKnowledge_7 (by decide) ?_
  refine lv_icmp_ge (tgt := 29) hx hb dX4_digestOfKnowledge_9 (by decide) (fun c_1 => ?_) (fun c_1 => ?_)
  · skip
    have c_1 : 26 ≤ j := (nI_leI (a := 26) (b := j) (by omega) (by omega)).mp c_1
    obtain rfl : 26 = j := by omega
    refine lv_iconst (v := 0) hx hb dX4_digestOfKnowledge_29 (by decide) ?_
    refine lv_istore (lv' := [(5, .int 0), (3, .long (zdK kt km kl d 26)), (0, .ref (h 0)), (1, .long d)]) hx hb dX4_digestOfKnowledge_30 hl (by decide) rfl (fun ls hl => ?_)
    refine zloop (σ := (Nat) × (Int64)) (nL := 6) (fun x9 => (zWT cI cJ h (n, L) (kt, km, kl) (pt, pm, pl) (nu, le, ow, fo, run, wc, lc, tr, cl, tm, ms) (yl, yc, yt, co, pa, su, sc) mc ++ R)) (fun x9 => [(5, .int (nI x9.1)), (3, .long x9.2), (0, .ref (h 0)), (1, .long d)]) (fun x9 => []) (fun x9 => (x9.1 ≤ 676) ∧ x9.2 = zdP pt pm pl (zdK kt km kl d 26) x9.1) (fun x9 => 676 - x9.1) ?_ (0, zdK kt km kl d 26) (⟨by omega, rfl⟩) _ _ _ hP hD hS (lv_sub hl [0, 1, 2, 3] rfl)
    rintro ⟨j, z⟩ hI ih H locs ls hP hD hS hl
    try dsimp only at hI ih hP hD hS hl ⊢
    obtain ⟨hI, rfl⟩ := hI
    refine lv_iload hx hb dX4_digestOfKnowledge_32 (lv_at hl 0 rfl) ?_
    refine lv_sipush (v := 676) hx hb dX4_digestOfKnowledge_34 (by decide) ?_
    refine lv_icmp_ge (tgt := 75) hx hb dX4_digestOfKnowledge_37 (by decide) (fun c_2 => ?_) (fun c_2 => ?_)
    · skip
      have c_2 : 676 ≤ j := (nI_leI (a := 676) (b := j) (by omega) (by omega)).mp c_2
      obtain rfl : 676 = j := by omega
      refine lv_iconst (v := 1) hx hb dX4_digestOfKnowledge_75 (by decide) ?_
      refine lv_istore (lv' := [(5, .int 1), (3, .long (zdP pt pm pl (zdK kt km kl d 26) 676)), (0, .ref (h 0)), (1, .long d)]) hx hb dX4_digestOfKnowledge_76 hl (by decide) rfl (fun ls hl => ?_)
      refine lv_iload hx hb dX4_digestOfKnowledge_78 (lv_at hl 0 rfl) ?_
      refine lv_iconst (v := 4) hx hb dX4_digestOfKnowledge_80 (by decide) ?_
      refine lv_icmp_gt (tgt := 105) hx hb dX4_digestOfKnowledge_81 (by decide) (fun c_3 => ?_) (fun c_3 => ?_)
      · skip
        exfalso; first | omega | (revert c_3; decide) | (exact absurd rfl c_3) | simp_all
      · skip
        refine lv_lload_n hx hb dX4_digestOfKnowledge_84 rfl (lv_at hl 1 rfl) ?_
        refine lv_aload_n hx hb dX4_digestOfKnowledge_85 rfl (lv_at hl 2 rfl) ?_
        refine va_get (ci := 4) (v := .ref (h 20)) (C := RX4) (T := TX4) (N := 6) hx hb hts hinX4 hown hK hP 0 rfl rfl 5 (by decide) (hts (.fieldLink RX4 42 "TypingTutor" "mistakeCounts" "[I") (List.mem_of_getElem? (i := 3) rfl)) (fun _ h9 => h9) rfl dX4_digestOfKnowledge_86 ?_
        refine lv_iload hx hb dX4_digestOfKnowledge_89 (lv_at hl 0 rfl) ?_
        refine zci (zrS (As := [.ref (h 20), .int 1]) (rest := [.long (zdP pt pm pl (zdK kt km kl d 26) 676)]) ⟨hx, hb, hml, hown, hts⟩ (zS hP hD hK hE hB hS) (c_X4_read (q0 := 20) rfl (by omega)) (va_cwS 2 hts gX4_digestOfKnowledge_X4_read rfl rfl rfl hds_X4_read ⟨Nat.le_of_ble_eq_true rfl, Nat.le_of_ble_eq_true rfl⟩) rfl rfl hl.1 rfl (lv_room (Nat.le_of_ble_eq_true rfl)) dX4_digestOfKnowledge_91 ⟨Nat.le_of_ble_eq_true rfl, Nat.le_of_ble_eq_true rfl⟩) hS (fun H locs hP hD hS => ?_)
        have hP : va_P D vwCl (zWT cI cJ h (n, L) (kt, km, kl) (pt, pm, pl) (nu, le, ow, fo, run, wc, lc, tr, cl, tm, ms) (yl, yc, yt, co, pa, su, sc) mc ++ R) _ := hP
        have hD : va_D (zAb B) (zWT cI cJ h (n, L) (kt, km, kl) (pt, pm, pl) (nu, le, ow, fo, run, wc, lc, tr, cl, tm, ms) (yl, yc, yt, co, pa, su, sc) mc ++ R) := hD
        rw [show (zrd 5 mc 1) = (mc 1) from (zrd_in (n := 5) (k := 1) (f := mc) (by omega) (by omega))]
        refine lv_i2l (v := ((mc 1)).toInt64) hx hb dX4_digestOfKnowledge_94 rfl ?_
        refine zcl (zrS (As := [.long (zdP pt pm pl (zdK kt km kl d 26) 676), .long (((mc 1)).toInt64)]) (rest := []) ⟨hx, hb, hml, hown, hts⟩ (zS hP hD hK hE hB hS) (c_X4_mixed  ) (va_cwS 2 hts gX4_digestOfKnowledge_X4_mixed rfl rfl rfl hds_X4_mixed ⟨Nat.le_of_ble_eq_true rfl, Nat.le_of_ble_eq_true rfl⟩) rfl rfl hl.1 rfl (lv_room (Nat.le_of_ble_eq_true rfl)) dX4_digestOfKnowledge_95 ⟨Nat.le_of_ble_eq_true rfl, Nat.le_of_ble_eq_true rfl⟩) hS (fun H locs hP hD hS => ?_)
        have hP : va_P D vwCl (zWT cI cJ h (n, L) (kt, km, kl) (pt, pm, pl) (nu, le, ow, fo, run, wc, lc, tr, cl, tm, ms) (yl, yc, yt, co, pa, su, sc) mc ++ R) _ := hP
        have hD : va_D (zAb B) (zWT cI cJ h (n, L) (kt, km, kl) (pt, pm, pl) (nu, le, ow, fo, run, wc, lc, tr, cl, tm, ms) (yl, yc, yt, co, pa, su, sc) mc ++ R) := hD
        refine lv_lstore_n (lv' := [(3, .long (zmx (zdP pt pm pl (zdK kt km kl d 26) 676) (((mc 1)).toInt64))), (5, .int 1), (0, .ref (h 0)), (1, .long d)]) hx hb dX4_digestOfKnowledge_98 rfl hl (by decide) rfl (fun ls hl => ?_)
        refine lv_iinc (v := 2) (lv' := [(5, .int 2), (3, .long (zmx (zdP pt pm pl (zdK kt km kl d 26) 676) (((mc 1)).toInt64))), (0, .ref (h 0)), (1, .long d)]) hx hb dX4_digestOfKnowledge_99 hl (k := 1) rfl (by decide) (by decide) rfl (fun ls hl => ?_)
        refine lv_goto (tgt := 78) hx hb dX4_digestOfKnowledge_102 (by decide) ?_
        refine lv_iload hx hb dX4_digestOfKnowledge_78 (lv_at hl 0 rfl) ?_
        refine lv_iconst (v := 4) hx hb dX4_digestOfKnowledge_80 (by decide) ?_
        refine lv_icmp_gt (tgt := 105) hx hb dX4_digestOfKnowledge_81 (by decide) (fun c_4 => ?_) (fun c_4 => ?_)
        · skip
          exfalso; first | omega | (revert c_4; decide) | (exact absurd rfl c_4) | simp_all
        · skip
          refine lv_lload_n hx hb dX4_digestOfKnowledge_84 rfl (lv_at hl 1 rfl) ?_
          refine lv_aload_n hx hb dX4_digestOfKnowledge_85 rfl (lv_at hl 2 rfl) ?_
          refine va_get (ci := 4) (v := .ref (h 20)) (C := RX4) (T := TX4) (N := 6) hx hb hts hinX4 hown hK hP 0 rfl rfl 5 (by decide) (hts (.fieldLink RX4 42 "TypingTutor" "mistakeCounts" "[I") (List.mem_of_getElem? (i := 3) rfl)) (fun _ h9 => h9) rfl dX4_digestOfKnowledge_86 ?_
          refine lv_iload hx hb dX4_digestOfKnowledge_89 (lv_at hl 0 rfl) ?_
          refine zci (zrS (As := [.ref (h 20), .int 2]) (rest := [.long (zmx (zdP pt pm pl (zdK kt km kl d 26) 676) (((mc 1)).toInt64))]) ⟨hx, hb, hml, hown, hts⟩ (zS hP hD hK hE hB hS) (c_X4_read (q0 := 20) rfl (by omega)) (va_cwS 2 hts gX4_digestOfKnowledge_X4_read rfl rfl rfl hds_X4_read ⟨Nat.le_of_ble_eq_true rfl, Nat.le_of_ble_eq_true rfl⟩) rfl rfl hl.1 rfl (lv_room (Nat.le_of_ble_eq_true rfl)) dX4_digestOfKnowledge_91 ⟨Nat.le_of_ble_eq_true rfl, Nat.le_of_ble_eq_true rfl⟩) hS (fun H locs hP hD hS => ?_)
          have hP : va_P D vwCl (zWT cI cJ h (n, L) (kt, km, kl) (pt, pm, pl) (nu, le, ow, fo, run, wc, lc, tr, cl, tm, ms) (yl, yc, yt, co, pa, su, sc) mc ++ R) _ := hP
          have hD : va_D (zAb B) (zWT cI cJ h (n, L) (kt, km, kl) (pt, pm, pl) (nu, le, ow, fo, run, wc, lc, tr, cl, tm, ms) (yl, yc, yt, co, pa, su, sc) mc ++ R) := hD
          rw [show (zrd 5 mc 2) = (mc 2) from (zrd_in (n := 5) (k := 2) (f := mc) (by omega) (by omega))]
          refine lv_i2l (v := ((mc 2)).toInt64) hx hb dX4_digestOfKnowledge_94 rfl ?_
          refine zcl (zrS (As := [.long (zmx (zdP pt pm pl (zdK kt km kl d 26) 676) (((mc 1)).toInt64)), .long (((mc 2)).toInt64)]) (rest := []) ⟨hx, hb, hml, hown, hts⟩ (zS hP hD hK hE hB hS) (c_X4_mixed  ) (va_cwS 2 hts gX4_digestOfKnowledge_X4_mixed rfl rfl rfl hds_X4_mixed ⟨Nat.le_of_ble_eq_true rfl, Nat.le_of_ble_eq_true rfl⟩) rfl rfl hl.1 rfl (lv_room (Nat.le_of_ble_eq_true rfl)) dX4_digestOfKnowledge_95 ⟨Nat.le_of_ble_eq_true rfl, Nat.le_of_ble_eq_true rfl⟩) hS (fun H locs hP hD hS => ?_)
          have hP : va_P D vwCl (zWT cI cJ h (n, L) (kt, km, kl) (pt, pm, pl) (nu, le, ow, fo, run, wc, lc, tr, cl, tm, ms) (yl, yc, yt, co, pa, su, sc) mc ++ R) _ := hP
          have hD : va_D (zAb B) (zWT cI cJ h (n, L) (kt, km, kl) (pt, pm, pl) (nu, le, ow, fo, run, wc, lc, tr, cl, tm, ms) (yl, yc, yt, co, pa, su, sc) mc ++ R) := hD
          refine lv_lstore_n (lv' := [(3, .long (zmx (zmx (zdP pt pm pl (zdK kt km kl d 26) 676) (((mc 1)).toInt64)) (((mc 2)).toInt64))), (5, .int 2), (0, .ref (h 0)), (1, .long d)]) hx hb dX4_digestOfKnowledge_98 rfl hl (by decide) rfl (fun ls hl => ?_)
          refine lv_iinc (v := 3) (lv' := [(5, .int 3), (3, .long (zmx (zmx (zdP pt pm pl (zdK kt km kl d 26) 676) (((mc 1)).toInt64)) (((mc 2)).toInt64))), (0, .ref (h 0)), (1, .long d)]) hx hb dX4_digestOfKnowledge_99 hl (k := 1) rfl (by decide) (by decide) rfl (fun ls hl => ?_)
          refine lv_goto (tgt := 78) hx hb dX4_digestOfKnowledge_102 (by decide) ?_
          refine lv_iload hx hb dX4_digestOfKnowledge_78 (lv_at hl 0 rfl) ?_
          refine lv_iconst (v := 4) hx hb dX4_digestOfKnowledge_80 (by decide) ?_
          refine lv_icmp_gt (tgt := 105) hx hb dX4_digestOfKnowledge_81 (by decide) (fun c_5 => ?_) (fun c_5 => ?_)
          · skip
            exfalso; first | omega | (revert c_5; decide) | (exact absurd rfl c_5) | simp_all
          · skip
            refine lv_lload_n hx hb dX4_digestOfKnowledge_84 rfl (lv_at hl 1 rfl) ?_
            refine lv_aload_n hx hb dX4_digestOfKnowledge_85 rfl (lv_at hl 2 rfl) ?_
            refine va_get (ci := 4) (v := .ref (h 20)) (C := RX4) (T := TX4) (N := 6) hx hb hts hinX4 hown hK hP 0 rfl rfl 5 (by decide) (hts (.fieldLink RX4 42 "TypingTutor" "mistakeCounts" "[I") (List.mem_of_getElem? (i := 3) rfl)) (fun _ h9 => h9) rfl dX4_digestOfKnowledge_86 ?_
            refine lv_iload hx hb dX4_digestOfKnowledge_89 (lv_at hl 0 rfl) ?_
            refine zci (zrS (As := [.ref (h 20), .int 3]) (rest := [.long (zmx (zmx (zdP pt pm pl (zdK kt km kl d 26) 676) (((mc 1)).toInt64)) (((mc 2)).toInt64))]) ⟨hx, hb, hml, hown, hts⟩ (zS hP hD hK hE hB hS) (c_X4_read (q0 := 20) rfl (by omega)) (va_cwS 2 hts gX4_digestOfKnowledge_X4_read rfl rfl rfl hds_X4_read ⟨Nat.le_of_ble_eq_true rfl, Nat.le_of_ble_eq_true rfl⟩) rfl rfl hl.1 rfl (lv_room (Nat.le_of_ble_eq_true rfl)) dX4_digestOfKnowledge_91 ⟨Nat.le_of_ble_eq_true rfl, Nat.le_of_ble_eq_true rfl⟩) hS (fun H locs hP hD hS => ?_)
            have hP : va_P D vwCl (zWT cI cJ h (n, L) (kt, km, kl) (pt, pm, pl) (nu, le, ow, fo, run, wc, lc, tr, cl, tm, ms) (yl, yc, yt, co, pa, su, sc) mc ++ R) _ := hP
            have hD : va_D (zAb B) (zWT cI cJ h (n, L) (kt, km, kl) (pt, pm, pl) (nu, le, ow, fo, run, wc, lc, tr, cl, tm, ms) (yl, yc, yt, co, pa, su, sc) mc ++ R) := hD
            rw [show (zrd 5 mc 3) = (mc 3) from (zrd_in (n := 5) (k := 3) (f := mc) (by omega) (by omega))]
            refine lv_i2l (v := ((mc 3)).toInt64) hx hb dX4_digestOfKnowledge_94 rfl ?_
            refine zcl (zrS (As := [.long (zmx (zmx (zdP pt pm pl (zdK kt km kl d 26) 676) (((mc 1)).toInt64)) (((mc 2)).toInt64)), .long (((mc 3)).toInt64)]) (rest := []) ⟨hx, hb, hml, hown, hts⟩ (zS hP hD hK hE hB hS) (c_X4_mixed  ) (va_cwS 2 hts gX4_digestOfKnowledge_X4_mixed rfl rfl rfl hds_X4_mixed ⟨Nat.le_of_ble_eq_true rfl, Nat.le_of_ble_eq_true rfl⟩) rfl rfl hl.1 rfl (lv_room (Nat.le_of_ble_eq_true rfl)) dX4_digestOfKnowledge_95 ⟨Nat.le_of_ble_eq_true rfl, Nat.le_of_ble_eq_true rfl⟩) hS (fun H locs hP hD hS => ?_)
            have hP : va_P D vwCl (zWT cI cJ h (n, L) (kt, km, kl) (pt, pm, pl) (nu, le, ow, fo, run, wc, lc, tr, cl, tm, ms) (yl, yc, yt, co, pa, su, sc) mc ++ R) _ := hP
            have hD : va_D (zAb B) (zWT cI cJ h (n, L) (kt, km, kl) (pt, pm, pl) (nu, le, ow, fo, run, wc, lc, tr, cl, tm, ms) (yl, yc, yt, co, pa, su, sc) mc ++ R) := hD
            refine lv_lstore_n (lv' := [(3, .long (zmx (zmx (zmx (zdP pt pm pl (zdK kt km kl d 26) 676) (((mc 1)).toInt64)) (((mc 2)).toInt64)) (((mc 3)).toInt64))), (5, .int 3), (0, .ref (h 0)), (1, .long d)]) hx hb dX4_digestOfKnowledge_98 rfl hl (by decide) rfl (fun ls hl => ?_)
            refine lv_iinc (v := 4) (lv' := [(5, .int 4), (3, .long (zmx (zmx (zmx (zdP pt pm pl (zdK kt km kl d 26) 676) (((mc 1)).toInt64)) (((mc 2)).toInt64)) (((mc 3)).toInt64))), (0, .ref (h 0)), (1, .long d)]) hx hb dX4_digestOfKnowledge_99 hl (k := 1) rfl (by decide) (by decide) rfl (fun ls hl => ?_)
            refine lv_goto (tgt := 78) hx hb dX4_digestOfKnowledge_102 (by decide) ?_
            refine lv_iload hx hb dX4_digestOfKnowledge_78 (lv_at hl 0 rfl) ?_
            refine lv_iconst (v := 4) hx hb dX4_digestOfKnowledge_80 (by decide) ?_
            refine lv_icmp_gt (tgt := 105) hx hb dX4_digestOfKnowledge_81 (by decide) (fun c_6 => ?_) (fun c_6 => ?_)
            · skip
              exfalso; first | omega | (revert c_6; decide) | (exact absurd rfl c_6) | simp_all
            · skip
              refine lv_lload_n hx hb dX4_digestOfKnowledge_84 rfl (lv_at hl 1 rfl) ?_
              refine lv_aload_n hx hb dX4_digestOfKnowledge_85 rfl (lv_at hl 2 rfl) ?_
              refine va_get (ci := 4) (v := .ref (h 20)) (C := RX4) (T := TX4) (N := 6) hx hb hts hinX4 hown hK hP 0 rfl rfl 5 (by decide) (hts (.fieldLink RX4 42 "TypingTutor" "mistakeCounts" "[I") (List.mem_of_getElem? (i := 3) rfl)) (fun _ h9 => h9) rfl dX4_digestOfKnowledge_86 ?_
              refine lv_iload hx hb dX4_digestOfKnowledge_89 (lv_at hl 0 rfl) ?_
              refine zci (zrS (As := [.ref (h 20), .int 4]) (rest := [.long (zmx (zmx (zmx (zdP pt pm pl (zdK kt km kl d 26) 676) (((mc 1)).toInt64)) (((mc 2)).toInt64)) (((mc 3)).toInt64))]) ⟨hx, hb, hml, hown, hts⟩ (zS hP hD hK hE hB hS) (c_X4_read (q0 := 20) rfl (by omega)) (va_cwS 2 hts gX4_digestOfKnowledge_X4_read rfl rfl rfl hds_X4_read ⟨Nat.le_of_ble_eq_true rfl, Nat.le_of_ble_eq_true rfl⟩) rfl rfl hl.1 rfl (lv_room (Nat.le_of_ble_eq_true rfl)) dX4_digestOfKnowledge_91 ⟨Nat.le_of_ble_eq_true rfl, Nat.le_of_ble_eq_true rfl⟩) hS (fun H locs hP hD hS => ?_)
              have hP : va_P D vwCl (zWT cI cJ h (n, L) (kt, km, kl) (pt, pm, pl) (nu, le, ow, fo, run, wc, lc, tr, cl, tm, ms) (yl, yc, yt, co, pa, su, sc) mc ++ R) _ := hP
              have hD : va_D (zAb B) (zWT cI cJ h (n, L) (kt, km, kl) (pt, pm, pl) (nu, le, ow, fo, run, wc, lc, tr, cl, tm, ms) (yl, yc, yt, co, pa, su, sc) mc ++ R) := hD
              rw [show (zrd 5 mc 4) = (mc 4) from (zrd_in (n := 5) (k := 4) (f := mc) (by omega) (by omega))]
              refine lv_i2l (v := ((mc 4)).toInt64) hx hb dX4_digestOfKnowledge_94 rfl ?_
              refine zcl (zrS (As := [.long (zmx (zmx (zmx (zdP pt pm pl (zdK kt km kl d 26) 676) (((mc 1)).toInt64)) (((mc 2)).toInt64)) (((mc 3)).toInt64)), .long (((mc 4)).toInt64)]) (rest := []) ⟨hx, hb, hml, hown, hts⟩ (zS hP hD hK hE hB hS) (c_X4_mixed  ) (va_cwS 2 hts gX4_digestOfKnowledge_X4_mixed rfl rfl rfl hds_X4_mixed ⟨Nat.le_of_ble_eq_true rfl, Nat.le_of_ble_eq_true rfl⟩) rfl rfl hl.1 rfl (lv_room (Nat.le_of_ble_eq_true rfl)) dX4_digestOfKnowledge_95 ⟨Nat.le_of_ble_eq_true rfl, Nat.le_of_ble_eq_true rfl⟩) hS (fun H locs hP hD hS => ?_)
              have hP : va_P D vwCl (zWT cI cJ h (n, L) (kt, km, kl) (pt, pm, pl) (nu, le, ow, fo, run, wc, lc, tr, cl, tm, ms) (yl, yc, yt, co, pa, su, sc) mc ++ R) _ := hP
              have hD : va_D (zAb B) (zWT cI cJ h (n, L) (kt, km, kl) (pt, pm, pl) (nu, le, ow, fo, run, wc, lc, tr, cl, tm, ms) (yl, yc, yt, co, pa, su, sc) mc ++ R) := hD
              refine lv_lstore_n (lv' := [(3, .long (zmx (zmx (zmx (zmx (zdP pt pm pl (zdK kt km kl d 26) 676) (((mc 1)).toInt64)) (((mc 2)).toInt64)) (((mc 3)).toInt64)) (((mc 4)).toInt64))), (5, .int 4), (0, .ref (h 0)), (1, .long d)]) hx hb dX4_digestOfKnowledge_98 rfl hl (by decide) rfl (fun ls hl => ?_)
              refine lv_iinc (v := 5) (lv' := [(5, .int 5), (3, .long (zmx (zmx (zmx (zmx (zdP pt pm pl (zdK kt km kl d 26) 676) (((mc 1)).toInt64)) (((mc 2)).toInt64)) (((mc 3)).toInt64)) (((mc 4)).toInt64))), (0, .ref (h 0)), (1, .long d)]) hx hb dX4_digestOfKnowledge_99 hl (k := 1) rfl (by decide) (by decide) rfl (fun ls hl => ?_)
              refine lv_goto (tgt := 78) hx hb dX4_digestOfKnowledge_102 (by decide) ?_
              refine lv_iload hx hb dX4_digestOfKnowledge_78 (lv_at hl 0 rfl) ?_
              refine lv_iconst (v := 4) hx hb dX4_digestOfKnowledge_80 (by decide) ?_
              refine lv_icmp_gt (tgt := 105) hx hb dX4_digestOfKnowledge_81 (by decide) (fun c_7 => ?_) (fun c_7 => ?_)
              · skip
                refine lv_lload_n hx hb dX4_digestOfKnowledge_105 rfl (lv_at hl 1 rfl) ?_
                exact W.lret (v := (zmx (zmx (zmx (zmx (zdP pt pm pl (zdK kt km kl d 26) 676) (((mc 1)).toInt64)) (((mc 2)).toInt64)) (((mc 3)).toInt64)) (((mc 4)).toInt64))) hx hb hr (fun t ht hW => ⟨⟨_, (), rfl, rfl, by rw [ht]; exact hP, hD⟩, hS.F ht⟩) hS.2.2 dX4_digestOfKnowledge_106
              · skip
                exfalso; first | omega | (revert c_7; decide) | (exact absurd rfl c_7) | simp_all
    · skip
      have c_2 : ¬ 676 ≤ j := fun hh => c_2 ((nI_leI (a := 676) (b := j) (by omega) (by omega)).mpr hh)
      refine lv_aload_n hx hb dX4_digestOfKnowledge_40 rfl (lv_at hl 2 rfl) ?_
      refine va_get (ci := 4) (v := .ref (h 7)) (C := RX4) (T := TX4) (N := 6) hx hb hts hinX4 hown hK hP 0 rfl rfl 2 (by decide) (hts (.fieldLink RX4 25 "TypingTutor" "pairs" "LTypingTutor$Knowledge;") (List.mem_of_getElem? (i := 2) rfl)) (fun _ h9 => h9) rfl dX4_digestOfKnowledge_41 ?_
      refine lv_iload hx hb dX4_digestOfKnowledge_44 (lv_at hl 0 rfl) ?_
      refine zci (zrV (As := [.int (nI j)]) (rest := []) ⟨hx, hb, hml, hown, hts⟩ (zV 7 hP hD hK hE hB hS rfl rfl) (c_X1_triesOf_p  ) (cwV 1 hts gX4_digestOfKnowledge_X1_triesOf rfl rfl rfl hdv_X1_triesOf ⟨Nat.le_of_ble_eq_true rfl, Nat.le_of_ble_eq_true rfl⟩) rfl rfl hl.1 rfl (lv_room (Nat.le_of_ble_eq_true rfl)) dX4_digestOfKnowledge_46 ⟨Nat.le_of_ble_eq_true rfl, Nat.le_of_ble_eq_true rfl⟩) hS (fun H locs hP hD hS => ?_)
      have hP : va_P D vwCl (zWT cI cJ h (n, L) (kt, km, kl) (pt, pm, pl) (nu, le, ow, fo, run, wc, lc, tr, cl, tm, ms) (yl, yc, yt, co, pa, su, sc) mc ++ R) _ := hP
      have hD : va_D (zAb B) (zWT cI cJ h (n, L) (kt, km, kl) (pt, pm, pl) (nu, le, ow, fo, run, wc, lc, tr, cl, tm, ms) (yl, yc, yt, co, pa, su, sc) mc ++ R) := hD
      rw [show (zrd 676 pt (nI j)) = (pt j) from zrd_in (by omega) (by omega)]
      refine lv_if_le (tgt := 69) hx hb dX4_digestOfKnowledge_49 (by decide) (fun c_8 => ?_) (fun c_8 => ?_)
      · skip
        refine lv_iinc (v := (nI (j + 1))) (lv' := [(5, .int (nI (j + 1))), (3, .long (zdP pt pm pl (zdK kt km kl d 26) j)), (0, .ref (h 0)), (1, .long d)]) hx hb dX4_digestOfKnowledge_69 hl (k := 0) rfl (nI_add j 1) (by decide) rfl (fun ls hl => ?_)
        refine lv_goto (tgt := 32) hx hb dX4_digestOfKnowledge_72 (by decide) ?_
        exact ih (j + 1, (zdP pt pm pl (zdK kt km kl d 26) j)) (⟨by omega, (if_pos (zle0 (hpt j (by omega)) c_8)).symm⟩) (by omega) _ _ _ hP hD hS (lv_sub hl [0, 1, 2, 3] rfl)
      · skip
        refine lv_lload_n hx hb dX4_digestOfKnowledge_52 rfl (lv_at hl 1 rfl) ?_
        refine lv_iload hx hb dX4_digestOfKnowledge_53 (lv_at hl 0 rfl) ?_
        refine lv_i2l (v := ((nI j)).toInt64) hx hb dX4_digestOfKnowledge_55 rfl ?_
        refine zcl (zrS (As := [.long (zdP pt pm pl (zdK kt km kl d 26) j), .long (((nI j)).toInt64)]) (rest := []) ⟨hx, hb, hml, hown, hts⟩ (zS hP hD hK hE hB hS) (c_X4_mixed  ) (va_cwS 2 hts gX4_digestOfKnowledge_X4_mixed rfl rfl rfl hds_X4_mixed ⟨Nat.le_of_ble_eq_true rfl, Nat.le_of_ble_eq_true rfl⟩) rfl rfl hl.1 rfl (lv_room (Nat.le_of_ble_eq_true rfl)) dX4_digestOfKnowledge_56 ⟨Nat.le_of_ble_eq_true rfl, Nat.le_of_ble_eq_true rfl⟩) hS (fun H locs hP hD hS => ?_)
        have hP : va_P D vwCl (zWT cI cJ h (n, L) (kt, km, kl) (pt, pm, pl) (nu, le, ow, fo, run, wc, lc, tr, cl, tm, ms) (yl, yc, yt, co, pa, su, sc) mc ++ R) _ := hP
        have hD : va_D (zAb B) (zWT cI cJ h (n, L) (kt, km, kl) (pt, pm, pl) (nu, le, ow, fo, run, wc, lc, tr, cl, tm, ms) (yl, yc, yt, co, pa, su, sc) mc ++ R) := hD
        refine lv_aload_n hx hb dX4_digestOfKnowledge_59 rfl (lv_at hl 2 rfl) ?_
        refine va_get (ci := 4) (v := .ref (h 7)) (C := RX4) (T := TX4) (N := 6) hx hb hts hinX4 hown hK hP 0 rfl rfl 2 (by decide) (hts (.fieldLink RX4 25 "TypingTutor" "pairs" "LTypingTutor$Knowledge;") (List.mem_of_getElem? (i := 2) rfl)) (fun _ h9 => h9) rfl dX4_digestOfKnowledge_60 ?_
        refine lv_iload hx hb dX4_digestOfKnowledge_63 (lv_at hl 0 rfl) ?_
        refine zcl (zrS (As := [.long (zmx (zdP pt pm pl (zdK kt km kl d 26) j) (((nI j)).toInt64)), .ref (h 7), .int (nI j)]) (rest := []) ⟨hx, hb, hml, hown, hts⟩ (zS hP hD hK hE hB hS) (c_X4_digestOfRecord_p (k := j) (by omega)) (va_cwS 3 hts gX4_digestOfKnowledge_X4_digestOfRecord rfl rfl rfl hds_X4_digestOfRecord ⟨Nat.le_of_ble_eq_true rfl, Nat.le_of_ble_eq_true rfl⟩) rfl rfl hl.1 rfl (lv_room (Nat.le_of_ble_eq_true rfl)) dX4_digestOfKnowledge_65 ⟨Nat.le_of_ble_eq_true rfl, Nat.le_of_ble_eq_true rfl⟩) hS (fun H locs hP hD hS => ?_)
        have hP : va_P D vwCl (zWT cI cJ h (n, L) (kt, km, kl) (pt, pm, pl) (nu, le, ow, fo, run, wc, lc, tr, cl, tm, ms) (yl, yc, yt, co, pa, su, sc) mc ++ R) _ := hP
        have hD : va_D (zAb B) (zWT cI cJ h (n, L) (kt, km, kl) (pt, pm, pl) (nu, le, ow, fo, run, wc, lc, tr, cl, tm, ms) (yl, yc, yt, co, pa, su, sc) mc ++ R) := hD
        refine lv_lstore_n (lv' := [(3, .long (zdr (zmx (zdP pt pm pl (zdK kt km kl d 26) j) (((nI j)).toInt64)) (pt j) (pm j) (pl j))), (5, .int (nI j)), (0, .ref (h 0)), (1, .long d)]) hx hb dX4_digestOfKnowledge_68 rfl hl (by decide) rfl (fun ls hl => ?_)
        refine lv_iinc (v := (nI (j + 1))) (lv' := [(5, .int (nI (j + 1))), (3, .long (zdr (zmx (zdP pt pm pl (zdK kt km kl d 26) j) (((nI j)).toInt64)) (pt j) (pm j) (pl j))), (0, .ref (h 0)), (1, .long d)]) hx hb dX4_digestOfKnowledge_69 hl (k := 1) rfl (nI_add j 1) (by decide) rfl (fun ls hl => ?_)
        refine lv_goto (tgt := 32) hx hb dX4_digestOfKnowledge_72 (by decide) ?_
        exact ih (j + 1, (zdr (zmx (zdP pt pm pl (zdK kt km kl d 26) j) (((nI j)).toInt64)) (pt j) (pm j) (pl j))) (⟨by omega, (if_neg (znle0 c_8)).symm⟩) (by omega) _ _ _ hP hD hS (lv_sub hl [0, 1, 2, 3] rfl)
  · skip
    have c_1 : ¬ 26 ≤ j := fun hh => c_1 ((nI_leI (a := 26) (b := j) (by omega) (by omega)).mpr hh)
    refine lv_lload_n hx hb dX4_digestOfKnowledge_12 rfl (lv_at hl 1 rfl) ?_
    refine lv_aload_n hx hb dX4_digestOfKnowledge_13 rfl (lv_at hl 2 rfl) ?_
    refine va_get (ci := 4) (v := .ref (h 3)) (C := RX4) (T := TX4) (N := 6) hx hb hts hinX4 hown hK hP 0 rfl rfl 1 (by decide) (hts (.fieldLink RX4 21 "TypingTutor" "keys" "LTypingTutor$Knowledge;") (List.mem_of_getElem? (i := 1) rfl)) (fun _ h9 => h9) rfl dX4_digestOfKnowledge_14 ?_
    refine lv_iload hx hb dX4_digestOfKnowledge_17 (lv_at hl 0 rfl) ?_
    refine zcl (zrS (As := [.long (zdK kt km kl d j), .ref (h 3), .int (nI j)]) (rest := []) ⟨hx, hb, hml, hown, hts⟩ (zS hP hD hK hE hB hS) (c_X4_digestOfRecord_k (k := j) (by omega)) (va_cwS 3 hts gX4_digestOfKnowledge_X4_digestOfRecord rfl rfl rfl hds_X4_digestOfRecord ⟨Nat.le_of_ble_eq_true rfl, Nat.le_of_ble_eq_true rfl⟩) rfl rfl hl.1 rfl (lv_room (Nat.le_of_ble_eq_true rfl)) dX4_digestOfKnowledge_19 ⟨Nat.le_of_ble_eq_true rfl, Nat.le_of_ble_eq_true rfl⟩) hS (fun H locs hP hD hS => ?_)
    have hP : va_P D vwCl (zWT cI cJ h (n, L) (kt, km, kl) (pt, pm, pl) (nu, le, ow, fo, run, wc, lc, tr, cl, tm, ms) (yl, yc, yt, co, pa, su, sc) mc ++ R) _ := hP
    have hD : va_D (zAb B) (zWT cI cJ h (n, L) (kt, km, kl) (pt, pm, pl) (nu, le, ow, fo, run, wc, lc, tr, cl, tm, ms) (yl, yc, yt, co, pa, su, sc) mc ++ R) := hD
    refine lv_lstore_n (lv' := [(3, .long (zdr (zdK kt km kl d j) (kt j) (km j) (kl j))), (5, .int (nI j)), (0, .ref (h 0)), (1, .long d)]) hx hb dX4_digestOfKnowledge_22 rfl hl (by decide) rfl (fun ls hl => ?_)
    refine lv_iinc (v := (nI (j + 1))) (lv' := [(5, .int (nI (j + 1))), (3, .long (zdr (zdK kt km kl d j) (kt j) (km j) (kl j))), (0, .ref (h 0)), (1, .long d)]) hx hb dX4_digestOfKnowledge_23 hl (k := 1) rfl (nI_add j 1) (by decide) rfl (fun ls hl => ?_)
    refine lv_goto (tgt := 5) hx hb dX4_digestOfKnowledge_26 (by decide) ?_
    exact ih (j + 1, (zdr (zdK kt km kl d j) (kt j) (km j) (kl j))) (⟨by omega, rfl⟩) (by omega) _ _ _ hP hD hS (lv_sub hl [0, 1, 2, 3] rfl)

set_option maxHeartbeats 4000000 in
set_option maxRecDepth 100000 in
theorem c_X4_digestOfLesson {l : Launch} {B kr kp : Nat} {D : va_G} {cI cJ cZ : ClassId} {h : Nat → Nat} {R : va_W} {n : Nat} {L : Nat → Int64} {kt : Nat → Int32} {km : Nat → Int32} {kl : Nat → Int32} {pt : Nat → Int32} {pm : Nat → Int32} {pl : Nat → Int32} {nu : Nat → Int32} {le : Nat → Int32} {ow : Nat → Int32} {fo : Nat → Int32} {run : Bool} {wc : Nat} {lc : Nat} {tr : Nat} {cl : Nat} {tm : Nat} {ms : Nat} {yl : Nat → Int32} {yc : Nat → Int32} {yt : Nat → Int32} {co : Nat} {pa : Int32} {su : Nat} {sc : Nat} {mc : Nat → Int32} {d : Int64}   (hwc : wc ≤ 6) : Met l yX4_digestOfLesson wsX4_digestOfLesson ({ frames := 2, cells := 0, slots := 0, locals := 42 }) (zPc B kr kp D (zTy cI cJ cZ) (zWT cI cJ h (n, L) (kt, km, kl) (pt, pm, pl) (nu, le, ow, fo, run, wc, lc, tr, cl, tm, ms) (yl, yc, yt, co, pa, su, sc) mc ++ R) [.ref (h 0), .long d]) (zQl B D (zWT cI cJ h (n, L) (kt, km, kl) (pt, pm, pl) (nu, le, ow, fo, run, wc, lc, tr, cl, tm, ms) (yl, yc, yt, co, pa, su, sc) mc ++ R) (zdL run nu wc tr d)) 0 0 (zAb B) := by
  cases run with
  | true =>
    refine Met.ofW (cc := cX4_digestOfLesson) (maxL := 6) (ret := (some .long)) (by decide) rfl ?_
    intro p e s m args below meth c s₁ B0 hml hv
    obtain ⟨rfl, hP, hD, hK, hE, hB⟩ := hv
    have hx := B0.exec
    have hb := B0.bytes
    have hr := B0.returns
    have hts := atoms_spec (ws := wsX4_digestOfLesson) B0.pre
    have hown : s.vm.findClass RX4 = some m.cls := findClass_of_methodNamed B0.named
    have hlocks := B0.notSynchronized
    have hA : ∀ q : Nat, s.heap.size ≤ q → zAb B q := fun q hq => Nat.le_trans hB hq
    have hS : va_S (zAb B) s.heap s.heap [] := va_S.rf
    have hl := lv_entry ([.ref (h 0), .long d]) (n := 6) (Nat.le_of_ble_eq_true rfl)
    rw [lg_entry_eq]
    generalize (lg_sl ([.ref (h 0), .long d]) ++ List.replicate (6 - (lg_sl ([.ref (h 0), .long d])).length) Slot.unset).toArray = ls at hl ⊢
    have hl : lv_has ls 6 [(0, .ref (h 0)), (1, .long d)] := hl
    have hinX4 : ∀ w ∈ wsX40, w ∈ wsX4_digestOfLesson := fun _ h => List.mem_cons_of_mem _ (List.mem_append_left _ (List.mem_append_right _ h))
    have hP : va_P D vwCl (zWT cI cJ h (n, L) (kt, km, kl) (pt, pm, pl) (nu, le, ow, fo, true, wc, lc, tr, cl, tm, ms) (yl, yc, yt, co, pa, su, sc) mc ++ R) s.heap := hP
    have hD : va_D (zAb B) (zWT cI cJ h (n, L) (kt, km, kl) (pt, pm, pl) (nu, le, ow, fo, true, wc, lc, tr, cl, tm, ms) (yl, yc, yt, co, pa, su, sc) mc ++ R) := hD
    refine lv_aload_n hx hb dX4_digestOfLesson_0 rfl (lv_at hl 0 rfl) ?_
    refine va_get (ci := 4) (v := .ref (h 11)) (C := RX4) (T := TX4) (N := 6) hx hb hts hinX4 hown hK hP 0 rfl rfl 3 (by decide) (hts (.fieldLink RX4 31 "TypingTutor" "current" "LTypingTutor$Lesson;") (List.mem_of_getElem? (i := 1) rfl)) (fun _ h9 => h9) rfl dX4_digestOfLesson_1 ?_
    refine zci (zrV (As := []) (rest := []) ⟨hx, hb, hml, hown, hts⟩ (zV 11 hP hD hK hE hB hS rfl rfl) (c_X2_isRunning  ) (cwV 0 hts gX4_digestOfLesson_X2_isRunning rfl rfl rfl hdv_X2_isRunning ⟨Nat.le_of_ble_eq_true rfl, Nat.le_of_ble_eq_true rfl⟩) rfl rfl hl.1 rfl (lv_room (Nat.le_of_ble_eq_true rfl)) dX4_digestOfLesson_4 ⟨Nat.le_of_ble_eq_true rfl, Nat.le_of_ble_eq_true rfl⟩) hS (fun H locs hP hD hS => ?_)
    have hP : va_P D vwCl (zWT cI cJ h (n, L) (kt, km, kl) (pt, pm, pl) (nu, le, ow, fo, true, wc, lc, tr, cl, tm, ms) (yl, yc, yt, co, pa, su, sc) mc ++ R) _ := hP
    have hD : va_D (zAb B) (zWT cI cJ h (n, L) (kt, km, kl) (pt, pm, pl) (nu, le, ow, fo, true, wc, lc, tr, cl, tm, ms) (yl, yc, yt, co, pa, su, sc) mc ++ R) := hD
    refine lv_if_ne (tgt := 16) hx hb dX4_digestOfLesson_7 (by decide) (fun c_1 => ?_) (fun c_1 => ?_)
    · skip
      refine lv_lload_n hx hb dX4_digestOfLesson_16 rfl (lv_at hl 1 rfl) ?_
      refine lv_lconst (v := 1) hx hb dX4_digestOfLesson_17 (by decide) ?_
      refine zcl (zrS (As := [.long d, .long 1]) (rest := []) ⟨hx, hb, hml, hown, hts⟩ (zS hP hD hK hE hB hS) (c_X4_mixed  ) (va_cwS 2 hts gX4_digestOfLesson_X4_mixed rfl rfl rfl hds_X4_mixed ⟨Nat.le_of_ble_eq_true rfl, Nat.le_of_ble_eq_true rfl⟩) rfl rfl hl.1 rfl (lv_room (Nat.le_of_ble_eq_true rfl)) dX4_digestOfLesson_18 ⟨Nat.le_of_ble_eq_true rfl, Nat.le_of_ble_eq_true rfl⟩) hS (fun H locs hP hD hS => ?_)
      have hP : va_P D vwCl (zWT cI cJ h (n, L) (kt, km, kl) (pt, pm, pl) (nu, le, ow, fo, true, wc, lc, tr, cl, tm, ms) (yl, yc, yt, co, pa, su, sc) mc ++ R) _ := hP
      have hD : va_D (zAb B) (zWT cI cJ h (n, L) (kt, km, kl) (pt, pm, pl) (nu, le, ow, fo, true, wc, lc, tr, cl, tm, ms) (yl, yc, yt, co, pa, su, sc) mc ++ R) := hD
      refine lv_aload_n hx hb dX4_digestOfLesson_21 rfl (lv_at hl 0 rfl) ?_
      refine va_get (ci := 4) (v := .ref (h 11)) (C := RX4) (T := TX4) (N := 6) hx hb hts hinX4 hown hK hP 0 rfl rfl 3 (by decide) (hts (.fieldLink RX4 31 "TypingTutor" "current" "LTypingTutor$Lesson;") (List.mem_of_getElem? (i := 1) rfl)) (fun _ h9 => h9) rfl dX4_digestOfLesson_22 ?_
      refine zci (zrV (As := []) (rest := [.long (zmx d 1)]) ⟨hx, hb, hml, hown, hts⟩ (zV 11 hP hD hK hE hB hS rfl rfl) (c_X2_wordTotal  ) (cwV 0 hts gX4_digestOfLesson_X2_wordTotal rfl rfl rfl hdv_X2_wordTotal ⟨Nat.le_of_ble_eq_true rfl, Nat.le_of_ble_eq_true rfl⟩) rfl rfl hl.1 rfl (lv_room (Nat.le_of_ble_eq_true rfl)) dX4_digestOfLesson_25 ⟨Nat.le_of_ble_eq_true rfl, Nat.le_of_ble_eq_true rfl⟩) hS (fun H locs hP hD hS => ?_)
      have hP : va_P D vwCl (zWT cI cJ h (n, L) (kt, km, kl) (pt, pm, pl) (nu, le, ow, fo, true, wc, lc, tr, cl, tm, ms) (yl, yc, yt, co, pa, su, sc) mc ++ R) _ := hP
      have hD : va_D (zAb B) (zWT cI cJ h (n, L) (kt, km, kl) (pt, pm, pl) (nu, le, ow, fo, true, wc, lc, tr, cl, tm, ms) (yl, yc, yt, co, pa, su, sc) mc ++ R) := hD
      refine lv_i2l (v := ((nI wc)).toInt64) hx hb dX4_digestOfLesson_28 rfl ?_
      refine zcl (zrS (As := [.long (zmx d 1), .long (((nI wc)).toInt64)]) (rest := []) ⟨hx, hb, hml, hown, hts⟩ (zS hP hD hK hE hB hS) (c_X4_mixed  ) (va_cwS 2 hts gX4_digestOfLesson_X4_mixed rfl rfl rfl hds_X4_mixed ⟨Nat.le_of_ble_eq_true rfl, Nat.le_of_ble_eq_true rfl⟩) rfl rfl hl.1 rfl (lv_room (Nat.le_of_ble_eq_true rfl)) dX4_digestOfLesson_29 ⟨Nat.le_of_ble_eq_true rfl, Nat.le_of_ble_eq_true rfl⟩) hS (fun H locs hP hD hS => ?_)
      have hP : va_P D vwCl (zWT cI cJ h (n, L) (kt, km, kl) (pt, pm, pl) (nu, le, ow, fo, true, wc, lc, tr, cl, tm, ms) (yl, yc, yt, co, pa, su, sc) mc ++ R) _ := hP
      have hD : va_D (zAb B) (zWT cI cJ h (n, L) (kt, km, kl) (pt, pm, pl) (nu, le, ow, fo, true, wc, lc, tr, cl, tm, ms) (yl, yc, yt, co, pa, su, sc) mc ++ R) := hD
      refine lv_lstore_n (lv' := [(3, .long (zmx (zmx d 1) (((nI wc)).toInt64))), (0, .ref (h 0)), (1, .long d)]) hx hb dX4_digestOfLesson_32 rfl hl (by decide) rfl (fun ls hl => ?_)
      refine lv_iconst (v := 0) hx hb dX4_digestOfLesson_33 (by decide) ?_
      refine lv_istore (lv' := [(5, .int 0), (3, .long (zmx (zmx d 1) (((nI wc)).toInt64))), (0, .ref (h 0)), (1, .long d)]) hx hb dX4_digestOfLesson_34 hl (by decide) rfl (fun ls hl => ?_)
      refine zloop (σ := (Nat) × (Int64)) (nL := 6) (fun x9 => (zWT cI cJ h (n, L) (kt, km, kl) (pt, pm, pl) (nu, le, ow, fo, true, wc, lc, tr, cl, tm, ms) (yl, yc, yt, co, pa, su, sc) mc ++ R)) (fun x9 => [(5, .int (nI x9.1)), (3, .long x9.2), (0, .ref (h 0)), (1, .long d)]) (fun x9 => []) (fun x9 => (x9.1 ≤ wc) ∧ x9.2 = zdN nu (zmx (zmx d 1) (nI wc).toInt64) x9.1) (fun x9 => wc - x9.1) ?_ (0, zmx (zmx d 1) (nI wc).toInt64) (⟨by omega, rfl⟩) _ _ _ hP hD hS (lv_sub hl [0, 1, 2, 3] rfl)
      rintro ⟨j, z⟩ hI ih H locs ls hP hD hS hl
      try dsimp only at hI ih hP hD hS hl ⊢
      obtain ⟨hI, rfl⟩ := hI
      refine lv_iload hx hb dX4_digestOfLesson_36 (lv_at hl 0 rfl) ?_
      refine lv_aload_n hx hb dX4_digestOfLesson_38 rfl (lv_at hl 2 rfl) ?_
      refine va_get (ci := 4) (v := .ref (h 11)) (C := RX4) (T := TX4) (N := 6) hx hb hts hinX4 hown hK hP 0 rfl rfl 3 (by decide) (hts (.fieldLink RX4 31 "TypingTutor" "current" "LTypingTutor$Lesson;") (List.mem_of_getElem? (i := 1) rfl)) (fun _ h9 => h9) rfl dX4_digestOfLesson_39 ?_
      refine zci (zrV (As := []) (rest := [.int (nI j)]) ⟨hx, hb, hml, hown, hts⟩ (zV 11 hP hD hK hE hB hS rfl rfl) (c_X2_wordTotal  ) (cwV 0 hts gX4_digestOfLesson_X2_wordTotal rfl rfl rfl hdv_X2_wordTotal ⟨Nat.le_of_ble_eq_true rfl, Nat.le_of_ble_eq_true rfl⟩) rfl rfl hl.1 rfl (lv_room (Nat.le_of_ble_eq_true rfl)) dX4_digestOfLesson_42 ⟨Nat.le_of_ble_eq_true rfl, Nat.le_of_ble_eq_true rfl⟩) hS (fun H locs hP hD hS => ?_)
      have hP : va_P D vwCl (zWT cI cJ h (n, L) (kt, km, kl) (pt, pm, pl) (nu, le, ow, fo, true, wc, lc, tr, cl, tm, ms) (yl, yc, yt, co, pa, su, sc) mc ++ R) _ := hP
      have hD : va_D (zAb B) (zWT cI cJ h (n, L) (kt, km, kl) (pt, pm, pl) (nu, le, ow, fo, true, wc, lc, tr, cl, tm, ms) (yl, yc, yt, co, pa, su, sc) mc ++ R) := hD
      refine lv_icmp_ge (tgt := 69) hx hb dX4_digestOfLesson_45 (by decide) (fun c_2 => ?_) (fun c_2 => ?_)
      · skip
        have c_2 : wc ≤ j := (nI_leI (a := wc) (b := j) (by omega) (by omega)).mp c_2
        obtain rfl : wc = j := by omega
        refine lv_lload_n hx hb dX4_digestOfLesson_69 rfl (lv_at hl 1 rfl) ?_
        refine lv_aload_n hx hb dX4_digestOfLesson_70 rfl (lv_at hl 2 rfl) ?_
        refine va_get (ci := 4) (v := .ref (h 11)) (C := RX4) (T := TX4) (N := 6) hx hb hts hinX4 hown hK hP 0 rfl rfl 3 (by decide) (hts (.fieldLink RX4 31 "TypingTutor" "current" "LTypingTutor$Lesson;") (List.mem_of_getElem? (i := 1) rfl)) (fun _ h9 => h9) rfl dX4_digestOfLesson_71 ?_
        refine zci (zrV (As := []) (rest := [.long (zdN nu (zmx (zmx d 1) (nI wc).toInt64) wc)]) ⟨hx, hb, hml, hown, hts⟩ (zV 11 hP hD hK hE hB hS rfl rfl) (c_X2_triedTotal  ) (cwV 0 hts gX4_digestOfLesson_X2_triedTotal rfl rfl rfl hdv_X2_triedTotal ⟨Nat.le_of_ble_eq_true rfl, Nat.le_of_ble_eq_true rfl⟩) rfl rfl hl.1 rfl (lv_room (Nat.le_of_ble_eq_true rfl)) dX4_digestOfLesson_74 ⟨Nat.le_of_ble_eq_true rfl, Nat.le_of_ble_eq_true rfl⟩) hS (fun H locs hP hD hS => ?_)
        have hP : va_P D vwCl (zWT cI cJ h (n, L) (kt, km, kl) (pt, pm, pl) (nu, le, ow, fo, true, wc, lc, tr, cl, tm, ms) (yl, yc, yt, co, pa, su, sc) mc ++ R) _ := hP
        have hD : va_D (zAb B) (zWT cI cJ h (n, L) (kt, km, kl) (pt, pm, pl) (nu, le, ow, fo, true, wc, lc, tr, cl, tm, ms) (yl, yc, yt, co, pa, su, sc) mc ++ R) := hD
        refine lv_i2l (v := ((nI tr)).toInt64) hx hb dX4_digestOfLesson_77 rfl ?_
        refine zcl (zrS (As := [.long (zdN nu (zmx (zmx d 1) (nI wc).toInt64) wc), .long (((nI tr)).toInt64)]) (rest := []) ⟨hx, hb, hml, hown, hts⟩ (zS hP hD hK hE hB hS) (c_X4_mixed  ) (va_cwS 2 hts gX4_digestOfLesson_X4_mixed rfl rfl rfl hds_X4_mixed ⟨Nat.le_of_ble_eq_true rfl, Nat.le_of_ble_eq_true rfl⟩) rfl rfl hl.1 rfl (lv_room (Nat.le_of_ble_eq_true rfl)) dX4_digestOfLesson_78 ⟨Nat.le_of_ble_eq_true rfl, Nat.le_of_ble_eq_true rfl⟩) hS (fun H locs hP hD hS => ?_)
        have hP : va_P D vwCl (zWT cI cJ h (n, L) (kt, km, kl) (pt, pm, pl) (nu, le, ow, fo, true, wc, lc, tr, cl, tm, ms) (yl, yc, yt, co, pa, su, sc) mc ++ R) _ := hP
        have hD : va_D (zAb B) (zWT cI cJ h (n, L) (kt, km, kl) (pt, pm, pl) (nu, le, ow, fo, true, wc, lc, tr, cl, tm, ms) (yl, yc, yt, co, pa, su, sc) mc ++ R) := hD
        exact W.lret (v := (zmx (zdN nu (zmx (zmx d 1) (nI wc).toInt64) wc) (((nI tr)).toInt64))) hx hb hr (fun t ht hW => ⟨⟨_, (), rfl, rfl, by rw [ht]; exact hP, hD⟩, hS.F ht⟩) hS.2.2 dX4_digestOfLesson_81
      · skip
        have c_2 : ¬ wc ≤ j := fun hh => c_2 ((nI_leI (a := wc) (b := j) (by omega) (by omega)).mpr hh)
        refine lv_lload_n hx hb dX4_digestOfLesson_48 rfl (lv_at hl 1 rfl) ?_
        refine lv_aload_n hx hb dX4_digestOfLesson_49 rfl (lv_at hl 2 rfl) ?_
        refine va_get (ci := 4) (v := .ref (h 11)) (C := RX4) (T := TX4) (N := 6) hx hb hts hinX4 hown hK hP 0 rfl rfl 3 (by decide) (hts (.fieldLink RX4 31 "TypingTutor" "current" "LTypingTutor$Lesson;") (List.mem_of_getElem? (i := 1) rfl)) (fun _ h9 => h9) rfl dX4_digestOfLesson_50 ?_
        refine lv_iload hx hb dX4_digestOfLesson_53 (lv_at hl 0 rfl) ?_
        refine zci (zrV (As := [.int (nI j)]) (rest := [.long (zdN nu (zmx (zmx d 1) (nI wc).toInt64) j)]) ⟨hx, hb, hml, hown, hts⟩ (zV 11 hP hD hK hE hB hS rfl rfl) (c_X2_numberAt (k := j) (by omega)) (cwV 1 hts gX4_digestOfLesson_X2_numberAt rfl rfl rfl hdv_X2_numberAt ⟨Nat.le_of_ble_eq_true rfl, Nat.le_of_ble_eq_true rfl⟩) rfl rfl hl.1 rfl (lv_room (Nat.le_of_ble_eq_true rfl)) dX4_digestOfLesson_55 ⟨Nat.le_of_ble_eq_true rfl, Nat.le_of_ble_eq_true rfl⟩) hS (fun H locs hP hD hS => ?_)
        have hP : va_P D vwCl (zWT cI cJ h (n, L) (kt, km, kl) (pt, pm, pl) (nu, le, ow, fo, true, wc, lc, tr, cl, tm, ms) (yl, yc, yt, co, pa, su, sc) mc ++ R) _ := hP
        have hD : va_D (zAb B) (zWT cI cJ h (n, L) (kt, km, kl) (pt, pm, pl) (nu, le, ow, fo, true, wc, lc, tr, cl, tm, ms) (yl, yc, yt, co, pa, su, sc) mc ++ R) := hD
        refine lv_i2l (v := ((nu j)).toInt64) hx hb dX4_digestOfLesson_58 rfl ?_
        refine zcl (zrS (As := [.long (zdN nu (zmx (zmx d 1) (nI wc).toInt64) j), .long (((nu j)).toInt64)]) (rest := []) ⟨hx, hb, hml, hown, hts⟩ (zS hP hD hK hE hB hS) (c_X4_mixed  ) (va_cwS 2 hts gX4_digestOfLesson_X4_mixed rfl rfl rfl hds_X4_mixed ⟨Nat.le_of_ble_eq_true rfl, Nat.le_of_ble_eq_true rfl⟩) rfl rfl hl.1 rfl (lv_room (Nat.le_of_ble_eq_true rfl)) dX4_digestOfLesson_59 ⟨Nat.le_of_ble_eq_true rfl, Nat.le_of_ble_eq_true rfl⟩) hS (fun H locs hP hD hS => ?_)
        have hP : va_P D vwCl (zWT cI cJ h (n, L) (kt, km, kl) (pt, pm, pl) (nu, le, ow, fo, true, wc, lc, tr, cl, tm, ms) (yl, yc, yt, co, pa, su, sc) mc ++ R) _ := hP
        have hD : va_D (zAb B) (zWT cI cJ h (n, L) (kt, km, kl) (pt, pm, pl) (nu, le, ow, fo, true, wc, lc, tr, cl, tm, ms) (yl, yc, yt, co, pa, su, sc) mc ++ R) := hD
        refine lv_lstore_n (lv' := [(3, .long (zmx (zdN nu (zmx (zmx d 1) (nI wc).toInt64) j) (((nu j)).toInt64))), (5, .int (nI j)), (0, .ref (h 0)), (1, .long d)]) hx hb dX4_digestOfLesson_62 rfl hl (by decide) rfl (fun ls hl => ?_)
        refine lv_iinc (v := (nI (j + 1))) (lv' := [(5, .int (nI (j + 1))), (3, .long (zmx (zdN nu (zmx (zmx d 1) (nI wc).toInt64) j) (((nu j)).toInt64))), (0, .ref (h 0)), (1, .long d)]) hx hb dX4_digestOfLesson_63 hl (k := 1) rfl (nI_add j 1) (by decide) rfl (fun ls hl => ?_)
        refine lv_goto (tgt := 36) hx hb dX4_digestOfLesson_66 (by decide) ?_
        exact ih (j + 1, (zmx (zdN nu (zmx (zmx d 1) (nI wc).toInt64) j) (((nu j)).toInt64))) (⟨by omega, rfl⟩) (by omega) _ _ _ hP hD hS (lv_sub hl [0, 1, 2, 3] rfl)
    · skip
      exfalso; first | omega | (revert c_1; decide) | (exact absurd rfl c_1) | simp_all
  | false =>
    refine Met.ofW (cc := cX4_digestOfLesson) (maxL := 6) (ret := (some .long)) (by decide) rfl ?_
    intro p e s m args below meth c s₁ B0 hml hv
    obtain ⟨rfl, hP, hD, hK, hE, hB⟩ := hv
    have hx := B0.exec
    have hb := B0.bytes
    have hr := B0.returns
    have hts := atoms_spec (ws := wsX4_digestOfLesson) B0.pre
    have hown : s.vm.findClass RX4 = some m.cls := findClass_of_methodNamed B0.named
    have hlocks := B0.notSynchronized
    have hA : ∀ q : Nat, s.heap.size ≤ q → zAb B q := fun q hq => Nat.le_trans hB hq
    have hS : va_S (zAb B) s.heap s.heap [] := va_S.rf
    have hl := lv_entry ([.ref (h 0), .long d]) (n := 6) (Nat.le_of_ble_eq_true rfl)
    rw [lg_entry_eq]
    generalize (lg_sl ([.ref (h 0), .long d]) ++ List.replicate (6 - (lg_sl ([.ref (h 0), .long d])).length) Slot.unset).toArray = ls at hl ⊢
    have hl : lv_has ls 6 [(0, .ref (h 0)), (1, .long d)] := hl
    have hinX4 : ∀ w ∈ wsX40, w ∈ wsX4_digestOfLesson := fun _ h => List.mem_cons_of_mem _ (List.mem_append_left _ (List.mem_append_right _ h))
    have hP : va_P D vwCl (zWT cI cJ h (n, L) (kt, km, kl) (pt, pm, pl) (nu, le, ow, fo, false, wc, lc, tr, cl, tm, ms) (yl, yc, yt, co, pa, su, sc) mc ++ R) s.heap := hP
    have hD : va_D (zAb B) (zWT cI cJ h (n, L) (kt, km, kl) (pt, pm, pl) (nu, le, ow, fo, false, wc, lc, tr, cl, tm, ms) (yl, yc, yt, co, pa, su, sc) mc ++ R) := hD
    refine lv_aload_n hx hb dX4_digestOfLesson_0 rfl (lv_at hl 0 rfl) ?_
    refine va_get (ci := 4) (v := .ref (h 11)) (C := RX4) (T := TX4) (N := 6) hx hb hts hinX4 hown hK hP 0 rfl rfl 3 (by decide) (hts (.fieldLink RX4 31 "TypingTutor" "current" "LTypingTutor$Lesson;") (List.mem_of_getElem? (i := 1) rfl)) (fun _ h9 => h9) rfl dX4_digestOfLesson_1 ?_
    refine zci (zrV (As := []) (rest := []) ⟨hx, hb, hml, hown, hts⟩ (zV 11 hP hD hK hE hB hS rfl rfl) (c_X2_isRunning  ) (cwV 0 hts gX4_digestOfLesson_X2_isRunning rfl rfl rfl hdv_X2_isRunning ⟨Nat.le_of_ble_eq_true rfl, Nat.le_of_ble_eq_true rfl⟩) rfl rfl hl.1 rfl (lv_room (Nat.le_of_ble_eq_true rfl)) dX4_digestOfLesson_4 ⟨Nat.le_of_ble_eq_true rfl, Nat.le_of_ble_eq_true rfl⟩) hS (fun H locs hP hD hS => ?_)
    have hP : va_P D vwCl (zWT cI cJ h (n, L) (kt, km, kl) (pt, pm, pl) (nu, le, ow, fo, false, wc, lc, tr, cl, tm, ms) (yl, yc, yt, co, pa, su, sc) mc ++ R) _ := hP
    have hD : va_D (zAb B) (zWT cI cJ h (n, L) (kt, km, kl) (pt, pm, pl) (nu, le, ow, fo, false, wc, lc, tr, cl, tm, ms) (yl, yc, yt, co, pa, su, sc) mc ++ R) := hD
    refine lv_if_ne (tgt := 16) hx hb dX4_digestOfLesson_7 (by decide) (fun c_3 => ?_) (fun c_3 => ?_)
    · skip
      exfalso; first | omega | (revert c_3; decide) | (exact absurd rfl c_3) | simp_all
    · skip
      refine lv_lload_n hx hb dX4_digestOfLesson_10 rfl (lv_at hl 1 rfl) ?_
      refine lv_lconst (v := 0) hx hb dX4_digestOfLesson_11 (by decide) ?_
      refine zcl (zrS (As := [.long d, .long 0]) (rest := []) ⟨hx, hb, hml, hown, hts⟩ (zS hP hD hK hE hB hS) (c_X4_mixed  ) (va_cwS 2 hts gX4_digestOfLesson_X4_mixed rfl rfl rfl hds_X4_mixed ⟨Nat.le_of_ble_eq_true rfl, Nat.le_of_ble_eq_true rfl⟩) rfl rfl hl.1 rfl (lv_room (Nat.le_of_ble_eq_true rfl)) dX4_digestOfLesson_12 ⟨Nat.le_of_ble_eq_true rfl, Nat.le_of_ble_eq_true rfl⟩) hS (fun H locs hP hD hS => ?_)
      have hP : va_P D vwCl (zWT cI cJ h (n, L) (kt, km, kl) (pt, pm, pl) (nu, le, ow, fo, false, wc, lc, tr, cl, tm, ms) (yl, yc, yt, co, pa, su, sc) mc ++ R) _ := hP
      have hD : va_D (zAb B) (zWT cI cJ h (n, L) (kt, km, kl) (pt, pm, pl) (nu, le, ow, fo, false, wc, lc, tr, cl, tm, ms) (yl, yc, yt, co, pa, su, sc) mc ++ R) := hD
      exact W.lret (v := (zmx d 0)) hx hb hr (fun t ht hW => ⟨⟨_, (), rfl, rfl, by rw [ht]; exact hP, hD⟩, hS.F ht⟩) hS.2.2 dX4_digestOfLesson_15

set_option maxHeartbeats 4000000 in
set_option maxRecDepth 100000 in
theorem c_X4_digestOfHistory {l : Launch} {B kr kp : Nat} {D : va_G} {cI cJ cZ : ClassId} {h : Nat → Nat} {R : va_W} {n : Nat} {L : Nat → Int64} {kt : Nat → Int32} {km : Nat → Int32} {kl : Nat → Int32} {pt : Nat → Int32} {pm : Nat → Int32} {pl : Nat → Int32} {nu : Nat → Int32} {le : Nat → Int32} {ow : Nat → Int32} {fo : Nat → Int32} {run : Bool} {wc : Nat} {lc : Nat} {tr : Nat} {cl : Nat} {tm : Nat} {ms : Nat} {yl : Nat → Int32} {yc : Nat → Int32} {yt : Nat → Int32} {co : Nat} {pa : Int32} {su : Nat} {sc : Nat} {mc : Nat → Int32} {d : Int64}   (hco : co ≤ 256) : Met l yX4_digestOfHistory wsX4_digestOfHistory ({ frames := 3, cells := 0, slots := 0, locals := 65 }) (zPc B kr kp D (zTy cI cJ cZ) (zWT cI cJ h (n, L) (kt, km, kl) (pt, pm, pl) (nu, le, ow, fo, run, wc, lc, tr, cl, tm, ms) (yl, yc, yt, co, pa, su, sc) mc ++ R) [.ref (h 0), .long d]) (zQl B D (zWT cI cJ h (n, L) (kt, km, kl) (pt, pm, pl) (nu, le, ow, fo, run, wc, lc, tr, cl, tm, ms) (yl, yc, yt, co, pa, su, sc) mc ++ R) (zmx (zdH yl yc yt (zmx d (nI co).toInt64) co) pa.toInt64)) 0 0 (zAb B) := by
  refine Met.ofW (cc := cX4_digestOfHistory) (maxL := 7) (ret := (some .long)) (by decide) rfl ?_
  intro p e s m args below meth c s₁ B0 hml hv
  obtain ⟨rfl, hP, hD, hK, hE, hB⟩ := hv
  have hx := B0.exec
  have hb := B0.bytes
  have hr := B0.returns
  have hts := atoms_spec (ws := wsX4_digestOfHistory) B0.pre
  have hown : s.vm.findClass RX4 = some m.cls := findClass_of_methodNamed B0.named
  have hlocks := B0.notSynchronized
  have hA : ∀ q : Nat, s.heap.size ≤ q → zAb B q := fun q hq => Nat.le_trans hB hq
  have hS : va_S (zAb B) s.heap s.heap [] := va_S.rf
  have hl := lv_entry ([.ref (h 0), .long d]) (n := 7) (Nat.le_of_ble_eq_true rfl)
  rw [lg_entry_eq]
  generalize (lg_sl ([.ref (h 0), .long d]) ++ List.replicate (7 - (lg_sl ([.ref (h 0), .long d])).length) Slot.unset).toArray = ls at hl ⊢
  have hl : lv_has ls 7 [(0, .ref (h 0)), (1, .long d)] := hl
  have hinX4 : ∀ w ∈ wsX40, w ∈ wsX4_digestOfHistory := fun _ h => List.mem_cons_of_mem _ (List.mem_append_left _ (List.mem_append_right _ h))
  have hP : va_P D vwCl (zWT cI cJ h (n, L) (kt, km, kl) (pt, pm, pl) (nu, le, ow, fo, run, wc, lc, tr, cl, tm, ms) (yl, yc, yt, co, pa, su, sc) mc ++ R) s.heap := hP
  have hD : va_D (zAb B) (zWT cI cJ h (n, L) (kt, km, kl) (pt, pm, pl) (nu, le, ow, fo, run, wc, lc, tr, cl, tm, ms) (yl, yc, yt, co, pa, su, sc) mc ++ R) := hD
  refine lv_lload_n hx hb dX4_digestOfHistory_0 rfl (lv_at hl 1 rfl) ?_
  refine lv_aload_n hx hb dX4_digestOfHistory_1 rfl (lv_at hl 0 rfl) ?_
  refine va_get (ci := 4) (v := .ref (h 16)) (C := RX4) (T := TX4) (N := 6) hx hb hts hinX4 hown hK hP 0 rfl rfl 4 (by decide) (hts (.fieldLink RX4 38 "TypingTutor" "past" "LTypingTutor$History;") (List.mem_of_getElem? (i := 1) rfl)) (fun _ h9 => h9) rfl dX4_digestOfHistory_2 ?_
  refine zci (zrV (As := []) (rest := [.long d]) ⟨hx, hb, hml, hown, hts⟩ (zV 16 hP hD hK hE hB hS rfl rfl) (c_X0_size  ) (cwV 0 hts gX4_digestOfHistory_X0_size rfl rfl rfl hdv_X0_size ⟨Nat.le_of_ble_eq_true rfl, Nat.le_of_ble_eq_true rfl⟩) rfl rfl hl.1 rfl (lv_room (Nat.le_of_ble_eq_true rfl)) dX4_digestOfHistory_5 ⟨Nat.le_of_ble_eq_true rfl, Nat.le_of_ble_eq_true rfl⟩) hS (fun H locs hP hD hS => ?_)
  have hP : va_P D vwCl (zWT cI cJ h (n, L) (kt, km, kl) (pt, pm, pl) (nu, le, ow, fo, run, wc, lc, tr, cl, tm, ms) (yl, yc, yt, co, pa, su, sc) mc ++ R) _ := hP
  have hD : va_D (zAb B) (zWT cI cJ h (n, L) (kt, km, kl) (pt, pm, pl) (nu, le, ow, fo, run, wc, lc, tr, cl, tm, ms) (yl, yc, yt, co, pa, su, sc) mc ++ R) := hD
  refine lv_i2l (v := ((nI co)).toInt64) hx hb dX4_digestOfHistory_8 rfl ?_
  refine zcl (zrS (As := [.long d, .long (((nI co)).toInt64)]) (rest := []) ⟨hx, hb, hml, hown, hts⟩ (zS hP hD hK hE hB hS) (c_X4_mixed  ) (va_cwS 2 hts gX4_digestOfHistory_X4_mixed rfl rfl rfl hds_X4_mixed ⟨Nat.le_of_ble_eq_true rfl, Nat.le_of_ble_eq_true rfl⟩) rfl rfl hl.1 rfl (lv_room (Nat.le_of_ble_eq_true rfl)) dX4_digestOfHistory_9 ⟨Nat.le_of_ble_eq_true rfl, Nat.le_of_ble_eq_true rfl⟩) hS (fun H locs hP hD hS => ?_)
  have hP : va_P D vwCl (zWT cI cJ h (n, L) (kt, km, kl) (pt, pm, pl) (nu, le, ow, fo, run, wc, lc, tr, cl, tm, ms) (yl, yc, yt, co, pa, su, sc) mc ++ R) _ := hP
  have hD : va_D (zAb B) (zWT cI cJ h (n, L) (kt, km, kl) (pt, pm, pl) (nu, le, ow, fo, run, wc, lc, tr, cl, tm, ms) (yl, yc, yt, co, pa, su, sc) mc ++ R) := hD
  refine lv_lstore_n (lv' := [(3, .long (zmx d (((nI co)).toInt64))), (0, .ref (h 0)), (1, .long d)]) hx hb dX4_digestOfHistory_12 rfl hl (by decide) rfl (fun ls hl => ?_)
  refine lv_iconst (v := 0) hx hb dX4_digestOfHistory_13 (by decide) ?_
  refine lv_istore (lv' := [(5, .int 0), (3, .long (zmx d (((nI co)).toInt64))), (0, .ref (h 0)), (1, .long d)]) hx hb dX4_digestOfHistory_14 hl (by decide) rfl (fun ls hl => ?_)
  refine zloop (σ := (Nat) × (Int64)) (nL := 7) (fun x9 => (zWT cI cJ h (n, L) (kt, km, kl) (pt, pm, pl) (nu, le, ow, fo, run, wc, lc, tr, cl, tm, ms) (yl, yc, yt, co, pa, su, sc) mc ++ R)) (fun x9 => [(5, .int (nI x9.1)), (3, .long x9.2), (0, .ref (h 0)), (1, .long d)]) (fun x9 => []) (fun x9 => (x9.1 ≤ co) ∧ x9.2 = zdH yl yc yt (zmx d (nI co).toInt64) x9.1) (fun x9 => co - x9.1) ?_ (0, zmx d (nI co).toInt64) (⟨by omega, rfl⟩) _ _ _ hP hD hS (lv_sub hl [0, 1, 2, 3] rfl)
  rintro ⟨j, z⟩ hI ih H locs ls hP hD hS hl
  try dsimp only at hI ih hP hD hS hl ⊢
  obtain ⟨hI, rfl⟩ := hI
  refine lv_iload hx hb dX4_digestOfHistory_16 (lv_at hl 0 rfl) ?_
  refine lv_aload_n hx hb dX4_digestOfHistory_18 rfl (lv_at hl 2 rfl) ?_
  refine va_get (ci := 4) (v := .ref (h 16)) (C := RX4) (T := TX4) (N := 6) hx hb hts hinX4 hown hK hP 0 rfl rfl 4 (by decide) (hts (.fieldLink RX4 38 "TypingTutor" "past" "LTypingTutor$History;") (List.mem_of_getElem? (i := 1) rfl)) (fun _ h9 => h9) rfl dX4_digestOfHistory_19 ?_
  refine zci (zrV (As := []) (rest := [.int (nI j)]) ⟨hx, hb, hml, hown, hts⟩ (zV 16 hP hD hK hE hB hS rfl rfl) (c_X0_size  ) (cwV 0 hts gX4_digestOfHistory_X0_size rfl rfl rfl hdv_X0_size ⟨Nat.le_of_ble_eq_true rfl, Nat.le_of_ble_eq_true rfl⟩) rfl rfl hl.1 rfl (lv_room (Nat.le_of_ble_eq_true rfl)) dX4_digestOfHistory_22 ⟨Nat.le_of_ble_eq_true rfl, Nat.le_of_ble_eq_true rfl⟩) hS (fun H locs hP hD hS => ?_)
  have hP : va_P D vwCl (zWT cI cJ h (n, L) (kt, km, kl) (pt, pm, pl) (nu, le, ow, fo, run, wc, lc, tr, cl, tm, ms) (yl, yc, yt, co, pa, su, sc) mc ++ R) _ := hP
  have hD : va_D (zAb B) (zWT cI cJ h (n, L) (kt, km, kl) (pt, pm, pl) (nu, le, ow, fo, run, wc, lc, tr, cl, tm, ms) (yl, yc, yt, co, pa, su, sc) mc ++ R) := hD
  refine lv_icmp_ge (tgt := 66) hx hb dX4_digestOfHistory_25 (by decide) (fun c_1 => ?_) (fun c_1 => ?_)
  · skip
    have c_1 : co ≤ j := (nI_leI (a := co) (b := j) (by omega) (by omega)).mp c_1
    obtain rfl : co = j := by omega
    refine lv_lload_n hx hb dX4_digestOfHistory_66 rfl (lv_at hl 1 rfl) ?_
    refine lv_aload_n hx hb dX4_digestOfHistory_67 rfl (lv_at hl 2 rfl) ?_
    refine va_get (ci := 4) (v := .ref (h 16)) (C := RX4) (T := TX4) (N := 6) hx hb hts hinX4 hown hK hP 0 rfl rfl 4 (by decide) (hts (.fieldLink RX4 38 "TypingTutor" "past" "LTypingTutor$History;") (List.mem_of_getElem? (i := 1) rfl)) (fun _ h9 => h9) rfl dX4_digestOfHistory_68 ?_
    refine zci (zrV (As := []) (rest := [.long (zdH yl yc yt (zmx d (nI co).toInt64) co)]) ⟨hx, hb, hml, hown, hts⟩ (zV 16 hP hD hK hE hB hS rfl rfl) (c_X0_advisedPace  ) (cwV 0 hts gX4_digestOfHistory_X0_advisedPace rfl rfl rfl hdv_X0_advisedPace ⟨Nat.le_of_ble_eq_true rfl, Nat.le_of_ble_eq_true rfl⟩) rfl rfl hl.1 rfl (lv_room (Nat.le_of_ble_eq_true rfl)) dX4_digestOfHistory_71 ⟨Nat.le_of_ble_eq_true rfl, Nat.le_of_ble_eq_true rfl⟩) hS (fun H locs hP hD hS => ?_)
    have hP : va_P D vwCl (zWT cI cJ h (n, L) (kt, km, kl) (pt, pm, pl) (nu, le, ow, fo, run, wc, lc, tr, cl, tm, ms) (yl, yc, yt, co, pa, su, sc) mc ++ R) _ := hP
    have hD : va_D (zAb B) (zWT cI cJ h (n, L) (kt, km, kl) (pt, pm, pl) (nu, le, ow, fo, run, wc, lc, tr, cl, tm, ms) (yl, yc, yt, co, pa, su, sc) mc ++ R) := hD
    refine lv_i2l (v := (pa).toInt64) hx hb dX4_digestOfHistory_74 rfl ?_
    refine zcl (zrS (As := [.long (zdH yl yc yt (zmx d (nI co).toInt64) co), .long ((pa).toInt64)]) (rest := []) ⟨hx, hb, hml, hown, hts⟩ (zS hP hD hK hE hB hS) (c_X4_mixed  ) (va_cwS 2 hts gX4_digestOfHistory_X4_mixed rfl rfl rfl hds_X4_mixed ⟨Nat.le_of_ble_eq_true rfl, Nat.le_of_ble_eq_true rfl⟩) rfl rfl hl.1 rfl (lv_room (Nat.le_of_ble_eq_true rfl)) dX4_digestOfHistory_75 ⟨Nat.le_of_ble_eq_true rfl, Nat.le_of_ble_eq_true rfl⟩) hS (fun H locs hP hD hS => ?_)
    have hP : va_P D vwCl (zWT cI cJ h (n, L) (kt, km, kl) (pt, pm, pl) (nu, le, ow, fo, run, wc, lc, tr, cl, tm, ms) (yl, yc, yt, co, pa, su, sc) mc ++ R) _ := hP
    have hD : va_D (zAb B) (zWT cI cJ h (n, L) (kt, km, kl) (pt, pm, pl) (nu, le, ow, fo, run, wc, lc, tr, cl, tm, ms) (yl, yc, yt, co, pa, su, sc) mc ++ R) := hD
    exact W.lret (v := (zmx (zdH yl yc yt (zmx d (nI co).toInt64) co) ((pa).toInt64))) hx hb hr (fun t ht hW => ⟨⟨_, (), rfl, rfl, by rw [ht]; exact hP, hD⟩, hS.F ht⟩) hS.2.2 dX4_digestOfHistory_78
  · skip
    have c_1 : ¬ co ≤ j := fun hh => c_1 ((nI_leI (a := co) (b := j) (by omega) (by omega)).mpr hh)
    refine lv_iconst (v := 0) hx hb dX4_digestOfHistory_28 (by decide) ?_
    refine lv_istore (lv' := [(6, .int 0), (5, .int (nI j)), (3, .long (zdH yl yc yt (zmx d (nI co).toInt64) j)), (0, .ref (h 0)), (1, .long d)]) hx hb dX4_digestOfHistory_29 hl (by decide) rfl (fun ls hl => ?_)
    refine lv_iload hx hb dX4_digestOfHistory_31 (lv_at hl 0 rfl) ?_
    refine lv_iconst (v := 3) hx hb dX4_digestOfHistory_33 (by decide) ?_
    refine lv_icmp_gt (tgt := 60) hx hb dX4_digestOfHistory_34 (by decide) (fun c_2 => ?_) (fun c_2 => ?_)
    · skip
      exfalso; first | omega | (revert c_2; decide) | (exact absurd rfl c_2) | simp_all
    · skip
      refine lv_lload_n hx hb dX4_digestOfHistory_37 rfl (lv_at hl 2 rfl) ?_
      refine lv_aload_n hx hb dX4_digestOfHistory_38 rfl (lv_at hl 3 rfl) ?_
      refine va_get (ci := 4) (v := .ref (h 16)) (C := RX4) (T := TX4) (N := 6) hx hb hts hinX4 hown hK hP 0 rfl rfl 4 (by decide) (hts (.fieldLink RX4 38 "TypingTutor" "past" "LTypingTutor$History;") (List.mem_of_getElem? (i := 1) rfl)) (fun _ h9 => h9) rfl dX4_digestOfHistory_39 ?_
      refine lv_iload hx hb dX4_digestOfHistory_42 (lv_at hl 1 rfl) ?_
      refine lv_iload hx hb dX4_digestOfHistory_44 (lv_at hl 0 rfl) ?_
      refine zci (zrV (As := [.int (nI j), .int 0]) (rest := [.long (zdH yl yc yt (zmx d (nI co).toInt64) j)]) ⟨hx, hb, hml, hown, hts⟩ (zV 16 hP hD hK hE hB hS rfl rfl) (c_X0_tell_0 (k := j) (by omega)) (cwV 2 hts gX4_digestOfHistory_X0_tell rfl rfl rfl hdv_X0_tell ⟨Nat.le_of_ble_eq_true rfl, Nat.le_of_ble_eq_true rfl⟩) rfl rfl hl.1 rfl (lv_room (Nat.le_of_ble_eq_true rfl)) dX4_digestOfHistory_46 ⟨Nat.le_of_ble_eq_true rfl, Nat.le_of_ble_eq_true rfl⟩) hS (fun H locs hP hD hS => ?_)
      have hP : va_P D vwCl (zWT cI cJ h (n, L) (kt, km, kl) (pt, pm, pl) (nu, le, ow, fo, run, wc, lc, tr, cl, tm, ms) (yl, yc, yt, co, pa, su, sc) mc ++ R) _ := hP
      have hD : va_D (zAb B) (zWT cI cJ h (n, L) (kt, km, kl) (pt, pm, pl) (nu, le, ow, fo, run, wc, lc, tr, cl, tm, ms) (yl, yc, yt, co, pa, su, sc) mc ++ R) := hD
      refine lv_i2l (v := ((yl j)).toInt64) hx hb dX4_digestOfHistory_49 rfl ?_
      refine zcl (zrS (As := [.long (zdH yl yc yt (zmx d (nI co).toInt64) j), .long (((yl j)).toInt64)]) (rest := []) ⟨hx, hb, hml, hown, hts⟩ (zS hP hD hK hE hB hS) (c_X4_mixed  ) (va_cwS 2 hts gX4_digestOfHistory_X4_mixed rfl rfl rfl hds_X4_mixed ⟨Nat.le_of_ble_eq_true rfl, Nat.le_of_ble_eq_true rfl⟩) rfl rfl hl.1 rfl (lv_room (Nat.le_of_ble_eq_true rfl)) dX4_digestOfHistory_50 ⟨Nat.le_of_ble_eq_true rfl, Nat.le_of_ble_eq_true rfl⟩) hS (fun H locs hP hD hS => ?_)
      have hP : va_P D vwCl (zWT cI cJ h (n, L) (kt, km, kl) (pt, pm, pl) (nu, le, ow, fo, run, wc, lc, tr, cl, tm, ms) (yl, yc, yt, co, pa, su, sc) mc ++ R) _ := hP
      have hD : va_D (zAb B) (zWT cI cJ h (n, L) (kt, km, kl) (pt, pm, pl) (nu, le, ow, fo, run, wc, lc, tr, cl, tm, ms) (yl, yc, yt, co, pa, su, sc) mc ++ R) := hD
      refine lv_lstore_n (lv' := [(3, .long (zmx (zdH yl yc yt (zmx d (nI co).toInt64) j) (((yl j)).toInt64))), (6, .int 0), (5, .int (nI j)), (0, .ref (h 0)), (1, .long d)]) hx hb dX4_digestOfHistory_53 rfl hl (by decide) rfl (fun ls hl => ?_)
      refine lv_iinc (v := 1) (lv' := [(6, .int 1), (3, .long (zmx (zdH yl yc yt (zmx d (nI co).toInt64) j) (((yl j)).toInt64))), (5, .int (nI j)), (0, .ref (h 0)), (1, .long d)]) hx hb dX4_digestOfHistory_54 hl (k := 1) rfl (by decide) (by decide) rfl (fun ls hl => ?_)
      refine lv_goto (tgt := 31) hx hb dX4_digestOfHistory_57 (by decide) ?_
      refine lv_iload hx hb dX4_digestOfHistory_31 (lv_at hl 0 rfl) ?_
      refine lv_iconst (v := 3) hx hb dX4_digestOfHistory_33 (by decide) ?_
      refine lv_icmp_gt (tgt := 60) hx hb dX4_digestOfHistory_34 (by decide) (fun c_3 => ?_) (fun c_3 => ?_)
      · skip
        exfalso; first | omega | (revert c_3; decide) | (exact absurd rfl c_3) | simp_all
      · skip
        refine lv_lload_n hx hb dX4_digestOfHistory_37 rfl (lv_at hl 1 rfl) ?_
        refine lv_aload_n hx hb dX4_digestOfHistory_38 rfl (lv_at hl 3 rfl) ?_
        refine va_get (ci := 4) (v := .ref (h 16)) (C := RX4) (T := TX4) (N := 6) hx hb hts hinX4 hown hK hP 0 rfl rfl 4 (by decide) (hts (.fieldLink RX4 38 "TypingTutor" "past" "LTypingTutor$History;") (List.mem_of_getElem? (i := 1) rfl)) (fun _ h9 => h9) rfl dX4_digestOfHistory_39 ?_
        refine lv_iload hx hb dX4_digestOfHistory_42 (lv_at hl 2 rfl) ?_
        refine lv_iload hx hb dX4_digestOfHistory_44 (lv_at hl 0 rfl) ?_
        refine zci (zrV (As := [.int (nI j), .int 1]) (rest := [.long (zmx (zdH yl yc yt (zmx d (nI co).toInt64) j) (((yl j)).toInt64))]) ⟨hx, hb, hml, hown, hts⟩ (zV 16 hP hD hK hE hB hS rfl rfl) (c_X0_tell_1 (k := j) (by omega)) (cwV 2 hts gX4_digestOfHistory_X0_tell rfl rfl rfl hdv_X0_tell ⟨Nat.le_of_ble_eq_true rfl, Nat.le_of_ble_eq_true rfl⟩) rfl rfl hl.1 rfl (lv_room (Nat.le_of_ble_eq_true rfl)) dX4_digestOfHistory_46 ⟨Nat.le_of_ble_eq_true rfl, Nat.le_of_ble_eq_true rfl⟩) hS (fun H locs hP hD hS => ?_)
        have hP : va_P D vwCl (zWT cI cJ h (n, L) (kt, km, kl) (pt, pm, pl) (nu, le, ow, fo, run, wc, lc, tr, cl, tm, ms) (yl, yc, yt, co, pa, su, sc) mc ++ R) _ := hP
        have hD : va_D (zAb B) (zWT cI cJ h (n, L) (kt, km, kl) (pt, pm, pl) (nu, le, ow, fo, run, wc, lc, tr, cl, tm, ms) (yl, yc, yt, co, pa, su, sc) mc ++ R) := hD
        refine lv_i2l (v := ((yc j)).toInt64) hx hb dX4_digestOfHistory_49 rfl ?_
        refine zcl (zrS (As := [.long (zmx (zdH yl yc yt (zmx d (nI co).toInt64) j) (((yl j)).toInt64)), .long (((yc j)).toInt64)]) (rest := []) ⟨hx, hb, hml, hown, hts⟩ (zS hP hD hK hE hB hS) (c_X4_mixed  ) (va_cwS 2 hts gX4_digestOfHistory_X4_mixed rfl rfl rfl hds_X4_mixed ⟨Nat.le_of_ble_eq_true rfl, Nat.le_of_ble_eq_true rfl⟩) rfl rfl hl.1 rfl (lv_room (Nat.le_of_ble_eq_true rfl)) dX4_digestOfHistory_50 ⟨Nat.le_of_ble_eq_true rfl, Nat.le_of_ble_eq_true rfl⟩) hS (fun H locs hP hD hS => ?_)
        have hP : va_P D vwCl (zWT cI cJ h (n, L) (kt, km, kl) (pt, pm, pl) (nu, le, ow, fo, run, wc, lc, tr, cl, tm, ms) (yl, yc, yt, co, pa, su, sc) mc ++ R) _ := hP
        have hD : va_D (zAb B) (zWT cI cJ h (n, L) (kt, km, kl) (pt, pm, pl) (nu, le, ow, fo, run, wc, lc, tr, cl, tm, ms) (yl, yc, yt, co, pa, su, sc) mc ++ R) := hD
        refine lv_lstore_n (lv' := [(3, .long (zmx (zmx (zdH yl yc yt (zmx d (nI co).toInt64) j) (((yl j)).toInt64)) (((yc j)).toInt64))), (6, .int 1), (5, .int (nI j)), (0, .ref (h 0)), (1, .long d)]) hx hb dX4_digestOfHistory_53 rfl hl (by decide) rfl (fun ls hl => ?_)
        refine lv_iinc (v := 2) (lv' := [(6, .int 2), (3, .long (zmx (zmx (zdH yl yc yt (zmx d (nI co).toInt64) j) (((yl j)).toInt64)) (((yc j)).toInt64))), (5, .int (nI j)), (0, .ref (h 0)), (1, .long d)]) hx hb dX4_digestOfHistory_54 hl (k := 1) rfl (by decide) (by decide) rfl (fun ls hl => ?_)
        refine lv_goto (tgt := 31) hx hb dX4_digestOfHistory_57 (by decide) ?_
        refine lv_iload hx hb dX4_digestOfHistory_31 (lv_at hl 0 rfl) ?_
        refine lv_iconst (v := 3) hx hb dX4_digestOfHistory_33 (by decide) ?_
        refine lv_icmp_gt (tgt := 60) hx hb dX4_digestOfHistory_34 (by decide) (fun c_4 => ?_) (fun c_4 => ?_)
        · skip
          exfalso; first | omega | (revert c_4; decide) | (exact absurd rfl c_4) | simp_all
        · skip
          refine lv_lload_n hx hb dX4_digestOfHistory_37 rfl (lv_at hl 1 rfl) ?_
          refine lv_aload_n hx hb dX4_digestOfHistory_38 rfl (lv_at hl 3 rfl) ?_
          refine va_get (ci := 4) (v := .ref (h 16)) (C := RX4) (T := TX4) (N := 6) hx hb hts hinX4 hown hK hP 0 rfl rfl 4 (by decide) (hts (.fieldLink RX4 38 "TypingTutor" "past" "LTypingTutor$History;") (List.mem_of_getElem? (i := 1) rfl)) (fun _ h9 => h9) rfl dX4_digestOfHistory_39 ?_
          refine lv_iload hx hb dX4_digestOfHistory_42 (lv_at hl 2 rfl) ?_
          refine lv_iload hx hb dX4_digestOfHistory_44 (lv_at hl 0 rfl) ?_
          refine zci (zrV (As := [.int (nI j), .int 2]) (rest := [.long (zmx (zmx (zdH yl yc yt (zmx d (nI co).toInt64) j) (((yl j)).toInt64)) (((yc j)).toInt64))]) ⟨hx, hb, hml, hown, hts⟩ (zV 16 hP hD hK hE hB hS rfl rfl) (c_X0_tell_2 (k := j) (by omega)) (cwV 2 hts gX4_digestOfHistory_X0_tell rfl rfl rfl hdv_X0_tell ⟨Nat.le_of_ble_eq_true rfl, Nat.le_of_ble_eq_true rfl⟩) rfl rfl hl.1 rfl (lv_room (Nat.le_of_ble_eq_true rfl)) dX4_digestOfHistory_46 ⟨Nat.le_of_ble_eq_true rfl, Nat.le_of_ble_eq_true rfl⟩) hS (fun H locs hP hD hS => ?_)
          have hP : va_P D vwCl (zWT cI cJ h (n, L) (kt, km, kl) (pt, pm, pl) (nu, le, ow, fo, run, wc, lc, tr, cl, tm, ms) (yl, yc, yt, co, pa, su, sc) mc ++ R) _ := hP
          have hD : va_D (zAb B) (zWT cI cJ h (n, L) (kt, km, kl) (pt, pm, pl) (nu, le, ow, fo, run, wc, lc, tr, cl, tm, ms) (yl, yc, yt, co, pa, su, sc) mc ++ R) := hD
          refine lv_i2l (v := ((yt j)).toInt64) hx hb dX4_digestOfHistory_49 rfl ?_
          refine zcl (zrS (As := [.long (zmx (zmx (zdH yl yc yt (zmx d (nI co).toInt64) j) (((yl j)).toInt64)) (((yc j)).toInt64)), .long (((yt j)).toInt64)]) (rest := []) ⟨hx, hb, hml, hown, hts⟩ (zS hP hD hK hE hB hS) (c_X4_mixed  ) (va_cwS 2 hts gX4_digestOfHistory_X4_mixed rfl rfl rfl hds_X4_mixed ⟨Nat.le_of_ble_eq_true rfl, Nat.le_of_ble_eq_true rfl⟩) rfl rfl hl.1 rfl (lv_room (Nat.le_of_ble_eq_true rfl)) dX4_digestOfHistory_50 ⟨Nat.le_of_ble_eq_true rfl, Nat.le_of_ble_eq_true rfl⟩) hS (fun H locs hP hD hS => ?_)
          have hP : va_P D vwCl (zWT cI cJ h (n, L) (kt, km, kl) (pt, pm, pl) (nu, le, ow, fo, run, wc, lc, tr, cl, tm, ms) (yl, yc, yt, co, pa, su, sc) mc ++ R) _ := hP
          have hD : va_D (zAb B) (zWT cI cJ h (n, L) (kt, km, kl) (pt, pm, pl) (nu, le, ow, fo, run, wc, lc, tr, cl, tm, ms) (yl, yc, yt, co, pa, su, sc) mc ++ R) := hD
          refine lv_lstore_n (lv' := [(3, .long (zmx (zmx (zmx (zdH yl yc yt (zmx d (nI co).toInt64) j) (((yl j)).toInt64)) (((yc j)).toInt64)) (((yt j)).toInt64))), (6, .int 2), (5, .int (nI j)), (0, .ref (h 0)), (1, .long d)]) hx hb dX4_digestOfHistory_53 rfl hl (by decide) rfl (fun ls hl => ?_)
          refine lv_iinc (v := 3) (lv' := [(6, .int 3), (3, .long (zmx (zmx (zmx (zdH yl yc yt (zmx d (nI co).toInt64) j) (((yl j)).toInt64)) (((yc j)).toInt64)) (((yt j)).toInt64))), (5, .int (nI j)), (0, .ref (h 0)), (1, .long d)]) hx hb dX4_digestOfHistory_54 hl (k := 1) rfl (by decide) (by decide) rfl (fun ls hl => ?_)
          refine lv_goto (tgt := 31) hx hb dX4_digestOfHistory_57 (by decide) ?_
          refine lv_iload hx hb dX4_digestOfHistory_31 (lv_at hl 0 rfl) ?_
          refine lv_iconst (v := 3) hx hb dX4_digestOfHistory_33 (by decide) ?_
          refine lv_icmp_gt (tgt := 60) hx hb dX4_digestOfHistory_34 (by decide) (fun c_5 => ?_) (fun c_5 => ?_)
          · skip
            exfalso; first | omega | (revert c_5; decide) | (exact absurd rfl c_5) | simp_all
          · skip
            refine lv_lload_n hx hb dX4_digestOfHistory_37 rfl (lv_at hl 1 rfl) ?_
            refine lv_aload_n hx hb dX4_digestOfHistory_38 rfl (lv_at hl 3 rfl) ?_
            refine va_get (ci := 4) (v := .ref (h 16)) (C := RX4) (T := TX4) (N := 6) hx hb hts hinX4 hown hK hP 0 rfl rfl 4 (by decide) (hts (.fieldLink RX4 38 "TypingTutor" "past" "LTypingTutor$History;") (List.mem_of_getElem? (i := 1) rfl)) (fun _ h9 => h9) rfl dX4_digestOfHistory_39 ?_
            refine lv_iload hx hb dX4_digestOfHistory_42 (lv_at hl 2 rfl) ?_
            refine lv_iload hx hb dX4_digestOfHistory_44 (lv_at hl 0 rfl) ?_
            refine zci (zrV (As := [.int (nI j), .int 3]) (rest := [.long (zmx (zmx (zmx (zdH yl yc yt (zmx d (nI co).toInt64) j) (((yl j)).toInt64)) (((yc j)).toInt64)) (((yt j)).toInt64))]) ⟨hx, hb, hml, hown, hts⟩ (zV 16 hP hD hK hE hB hS rfl rfl) (c_X0_tell_3 (k := j) (by omega)) (cwV 2 hts gX4_digestOfHistory_X0_tell rfl rfl rfl hdv_X0_tell ⟨Nat.le_of_ble_eq_true rfl, Nat.le_of_ble_eq_true rfl⟩) rfl rfl hl.1 rfl (lv_room (Nat.le_of_ble_eq_true rfl)) dX4_digestOfHistory_46 ⟨Nat.le_of_ble_eq_true rfl, Nat.le_of_ble_eq_true rfl⟩) hS (fun H locs hP hD hS => ?_)
            have hP : va_P D vwCl (zWT cI cJ h (n, L) (kt, km, kl) (pt, pm, pl) (nu, le, ow, fo, run, wc, lc, tr, cl, tm, ms) (yl, yc, yt, co, pa, su, sc) mc ++ R) _ := hP
            have hD : va_D (zAb B) (zWT cI cJ h (n, L) (kt, km, kl) (pt, pm, pl) (nu, le, ow, fo, run, wc, lc, tr, cl, tm, ms) (yl, yc, yt, co, pa, su, sc) mc ++ R) := hD
            refine lv_i2l (v := ((zsp yl yt j)).toInt64) hx hb dX4_digestOfHistory_49 rfl ?_
            refine zcl (zrS (As := [.long (zmx (zmx (zmx (zdH yl yc yt (zmx d (nI co).toInt64) j) (((yl j)).toInt64)) (((yc j)).toInt64)) (((yt j)).toInt64)), .long (((zsp yl yt j)).toInt64)]) (rest := []) ⟨hx, hb, hml, hown, hts⟩ (zS hP hD hK hE hB hS) (c_X4_mixed  ) (va_cwS 2 hts gX4_digestOfHistory_X4_mixed rfl rfl rfl hds_X4_mixed ⟨Nat.le_of_ble_eq_true rfl, Nat.le_of_ble_eq_true rfl⟩) rfl rfl hl.1 rfl (lv_room (Nat.le_of_ble_eq_true rfl)) dX4_digestOfHistory_50 ⟨Nat.le_of_ble_eq_true rfl, Nat.le_of_ble_eq_true rfl⟩) hS (fun H locs hP hD hS => ?_)
            have hP : va_P D vwCl (zWT cI cJ h (n, L) (kt, km, kl) (pt, pm, pl) (nu, le, ow, fo, run, wc, lc, tr, cl, tm, ms) (yl, yc, yt, co, pa, su, sc) mc ++ R) _ := hP
            have hD : va_D (zAb B) (zWT cI cJ h (n, L) (kt, km, kl) (pt, pm, pl) (nu, le, ow, fo, run, wc, lc, tr, cl, tm, ms) (yl, yc, yt, co, pa, su, sc) mc ++ R) := hD
            refine lv_lstore_n (lv' := [(3, .long (zmx (zmx (zmx (zmx (zdH yl yc yt (zmx d (nI co).toInt64) j) (((yl j)).toInt64)) (((yc j)).toInt64)) (((yt j)).toInt64)) (((zsp yl yt j)).toInt64))), (6, .int 3), (5, .int (nI j)), (0, .ref (h 0)), (1, .long d)]) hx hb dX4_digestOfHistory_53 rfl hl (by decide) rfl (fun ls hl => ?_)
            refine lv_iinc (v := 4) (lv' := [(6, .int 4), (3, .long (zmx (zmx (zmx (zmx (zdH yl yc yt (zmx d (nI co).toInt64) j) (((yl j)).toInt64)) (((yc j)).toInt64)) (((yt j)).toInt64)) (((zsp yl yt j)).toInt64))), (5, .int (nI j)), (0, .ref (h 0)), (1, .long d)]) hx hb dX4_digestOfHistory_54 hl (k := 1) rfl (by decide) (by decide) rfl (fun ls hl => ?_)
            refine lv_goto (tgt := 31) hx hb dX4_digestOfHistory_57 (by decide) ?_
            refine lv_iload hx hb dX4_digestOfHistory_31 (lv_at hl 0 rfl) ?_
            refine lv_iconst (v := 3) hx hb dX4_digestOfHistory_33 (by decide) ?_
            refine lv_icmp_gt (tgt := 60) hx hb dX4_digestOfHistory_34 (by decide) (fun c_6 => ?_) (fun c_6 => ?_)
            · skip
              refine lv_iinc (v := (nI (j + 1))) (lv' := [(5, .int (nI (j + 1))), (6, .int 4), (3, .long (zmx (zmx (zmx (zmx (zdH yl yc yt (zmx d (nI co).toInt64) j) (((yl j)).toInt64)) (((yc j)).toInt64)) (((yt j)).toInt64)) (((zsp yl yt j)).toInt64))), (0, .ref (h 0)), (1, .long d)]) hx hb dX4_digestOfHistory_60 hl (k := 2) rfl (nI_add j 1) (by decide) rfl (fun ls hl => ?_)
              refine lv_goto (tgt := 16) hx hb dX4_digestOfHistory_63 (by decide) ?_
              exact ih (j + 1, (zmx (zmx (zmx (zmx (zdH yl yc yt (zmx d (nI co).toInt64) j) (((yl j)).toInt64)) (((yc j)).toInt64)) (((yt j)).toInt64)) (((zsp yl yt j)).toInt64))) (⟨by omega, rfl⟩) (by omega) _ _ _ hP hD hS (lv_sub hl [0, 2, 3, 4] rfl)
            · skip
              exfalso; first | omega | (revert c_6; decide) | (exact absurd rfl c_6) | simp_all

set_option maxHeartbeats 4000000 in
set_option maxRecDepth 100000 in
theorem c_X4_digest {l : Launch} {B kr kp : Nat} {D : va_G} {cI cJ cZ : ClassId} {h : Nat → Nat} {R : va_W} {n : Nat} {L : Nat → Int64} {kt : Nat → Int32} {km : Nat → Int32} {kl : Nat → Int32} {pt : Nat → Int32} {pm : Nat → Int32} {pl : Nat → Int32} {nu : Nat → Int32} {le : Nat → Int32} {ow : Nat → Int32} {fo : Nat → Int32} {run : Bool} {wc : Nat} {lc : Nat} {tr : Nat} {cl : Nat} {tm : Nat} {ms : Nat} {yl : Nat → Int32} {yc : Nat → Int32} {yt : Nat → Int32} {co : Nat} {pa : Int32} {su : Nat} {sc : Nat} {mc : Nat → Int32}    (hn : n ≤ 40) (hwc : wc ≤ 6) (hco : co ≤ 256) (hpt : ∀ p, p < 676 → ∃ k, k < 2147483648 ∧ pt p = nI k) : Met l yX4_digest wsX4_digest ({ frames := 4, cells := 0, slots := 0, locals := 94 }) (zPc B kr kp D (zTy cI cJ cZ) (zWT cI cJ h (n, L) (kt, km, kl) (pt, pm, pl) (nu, le, ow, fo, run, wc, lc, tr, cl, tm, ms) (yl, yc, yt, co, pa, su, sc) mc ++ R) [.ref (h 0)]) (zQl B D (zWT cI cJ h (n, L) (kt, km, kl) (pt, pm, pl) (nu, le, ow, fo, run, wc, lc, tr, cl, tm, ms) (yl, yc, yt, co, pa, su, sc) mc ++ R) (zmx (zdH yl yc yt (zmx (zdL run nu wc tr (zd4 mc (zdP pt pm pl (zdK kt km kl (zdW L (zmx 191 (nI n).toInt64) n) 26) 676))) (nI co).toInt64) co) pa.toInt64)) 0 0 (zAb B) := by
  refine Met.ofW (cc := cX4_digest) (maxL := 3) (ret := (some .long)) (by decide) rfl ?_
  intro p e s m args below meth c s₁ B0 hml hv
  obtain ⟨rfl, hP, hD, hK, hE, hB⟩ := hv
  have hx := B0.exec
  have hb := B0.bytes
  have hr := B0.returns
  have hts := atoms_spec (ws := wsX4_digest) B0.pre
  have hown : s.vm.findClass RX4 = some m.cls := findClass_of_methodNamed B0.named
  have hlocks := B0.notSynchronized
  have hA : ∀ q : Nat, s.heap.size ≤ q → zAb B q := fun q hq => Nat.le_trans hB hq
  have hS : va_S (zAb B) s.heap s.heap [] := va_S.rf
  have hl := lv_entry ([.ref (h 0)]) (n := 3) (Nat.le_of_ble_eq_true rfl)
  rw [lg_entry_eq]
  generalize (lg_sl ([.ref (h 0)]) ++ List.replicate (3 - (lg_sl ([.ref (h 0)])).length) Slot.unset).toArray = ls at hl ⊢
  have hl : lv_has ls 3 [(0, .ref (h 0))] := hl
  have hP : va_P D vwCl (zWT cI cJ h (n, L) (kt, km, kl) (pt, pm, pl) (nu, le, ow, fo, run, wc, lc, tr, cl, tm, ms) (yl, yc, yt, co, pa, su, sc) mc ++ R) s.heap := hP
  have hD : va_D (zAb B) (zWT cI cJ h (n, L) (kt, km, kl) (pt, pm, pl) (nu, le, ow, fo, run, wc, lc, tr, cl, tm, ms) (yl, yc, yt, co, pa, su, sc) mc ++ R) := hD
  refine lv_aload_n hx hb dX4_digest_0 rfl (lv_at hl 0 rfl) ?_
  refine lv_ldc2 hx hb hown (hts (.constantLong RX4 201 (191)) (List.mem_of_getElem? (i := 1) rfl)) dX4_digest_1 ?_
  refine zcl (zrV (As := [.long 191]) (rest := []) ⟨hx, hb, hml, hown, hts⟩ (zV 0 hP hD hK hE hB hS rfl rfl) (c_X4_digestOfWords  (hn)) (cwV 1 hts gX4_digest_X4_digestOfWords rfl rfl rfl hdv_X4_digestOfWords ⟨Nat.le_of_ble_eq_true rfl, Nat.le_of_ble_eq_true rfl⟩) rfl rfl hl.1 rfl (lv_room (Nat.le_of_ble_eq_true rfl)) dX4_digest_4 ⟨Nat.le_of_ble_eq_true rfl, Nat.le_of_ble_eq_true rfl⟩) hS (fun H locs hP hD hS => ?_)
  have hP : va_P D vwCl (zWT cI cJ h (n, L) (kt, km, kl) (pt, pm, pl) (nu, le, ow, fo, run, wc, lc, tr, cl, tm, ms) (yl, yc, yt, co, pa, su, sc) mc ++ R) _ := hP
  have hD : va_D (zAb B) (zWT cI cJ h (n, L) (kt, km, kl) (pt, pm, pl) (nu, le, ow, fo, run, wc, lc, tr, cl, tm, ms) (yl, yc, yt, co, pa, su, sc) mc ++ R) := hD
  refine lv_lstore_n (lv' := [(1, .long (zdW L (zmx 191 (nI n).toInt64) n)), (0, .ref (h 0))]) hx hb dX4_digest_7 rfl hl (by decide) rfl (fun ls hl => ?_)
  refine lv_aload_n hx hb dX4_digest_8 rfl (lv_at hl 1 rfl) ?_
  refine lv_lload_n hx hb dX4_digest_9 rfl (lv_at hl 0 rfl) ?_
  refine zcl (zrV (As := [.long (zdW L (zmx 191 (nI n).toInt64) n)]) (rest := []) ⟨hx, hb, hml, hown, hts⟩ (zV 0 hP hD hK hE hB hS rfl rfl) (c_X4_digestOfKnowledge  (hpt)) (cwV 1 hts gX4_digest_X4_digestOfKnowledge rfl rfl rfl hdv_X4_digestOfKnowledge ⟨Nat.le_of_ble_eq_true rfl, Nat.le_of_ble_eq_true rfl⟩) rfl rfl hl.1 rfl (lv_room (Nat.le_of_ble_eq_true rfl)) dX4_digest_10 ⟨Nat.le_of_ble_eq_true rfl, Nat.le_of_ble_eq_true rfl⟩) hS (fun H locs hP hD hS => ?_)
  have hP : va_P D vwCl (zWT cI cJ h (n, L) (kt, km, kl) (pt, pm, pl) (nu, le, ow, fo, run, wc, lc, tr, cl, tm, ms) (yl, yc, yt, co, pa, su, sc) mc ++ R) _ := hP
  have hD : va_D (zAb B) (zWT cI cJ h (n, L) (kt, km, kl) (pt, pm, pl) (nu, le, ow, fo, run, wc, lc, tr, cl, tm, ms) (yl, yc, yt, co, pa, su, sc) mc ++ R) := hD
  refine lv_lstore_n (lv' := [(1, .long (zd4 mc (zdP pt pm pl (zdK kt km kl (zdW L (zmx 191 (nI n).toInt64) n) 26) 676))), (0, .ref (h 0))]) hx hb dX4_digest_13 rfl hl (by decide) rfl (fun ls hl => ?_)
  refine lv_aload_n hx hb dX4_digest_14 rfl (lv_at hl 1 rfl) ?_
  refine lv_lload_n hx hb dX4_digest_15 rfl (lv_at hl 0 rfl) ?_
  refine zcl (zrV (As := [.long (zd4 mc (zdP pt pm pl (zdK kt km kl (zdW L (zmx 191 (nI n).toInt64) n) 26) 676))]) (rest := []) ⟨hx, hb, hml, hown, hts⟩ (zV 0 hP hD hK hE hB hS rfl rfl) (c_X4_digestOfLesson  (hwc)) (cwV 1 hts gX4_digest_X4_digestOfLesson rfl rfl rfl hdv_X4_digestOfLesson ⟨Nat.le_of_ble_eq_true rfl, Nat.le_of_ble_eq_true rfl⟩) rfl rfl hl.1 rfl (lv_room (Nat.le_of_ble_eq_true rfl)) dX4_digest_16 ⟨Nat.le_of_ble_eq_true rfl, Nat.le_of_ble_eq_true rfl⟩) hS (fun H locs hP hD hS => ?_)
  have hP : va_P D vwCl (zWT cI cJ h (n, L) (kt, km, kl) (pt, pm, pl) (nu, le, ow, fo, run, wc, lc, tr, cl, tm, ms) (yl, yc, yt, co, pa, su, sc) mc ++ R) _ := hP
  have hD : va_D (zAb B) (zWT cI cJ h (n, L) (kt, km, kl) (pt, pm, pl) (nu, le, ow, fo, run, wc, lc, tr, cl, tm, ms) (yl, yc, yt, co, pa, su, sc) mc ++ R) := hD
  refine lv_lstore_n (lv' := [(1, .long (zdL run nu wc tr (zd4 mc (zdP pt pm pl (zdK kt km kl (zdW L (zmx 191 (nI n).toInt64) n) 26) 676)))), (0, .ref (h 0))]) hx hb dX4_digest_19 rfl hl (by decide) rfl (fun ls hl => ?_)
  refine lv_aload_n hx hb dX4_digest_20 rfl (lv_at hl 1 rfl) ?_
  refine lv_lload_n hx hb dX4_digest_21 rfl (lv_at hl 0 rfl) ?_
  refine zcl (zrV (As := [.long (zdL run nu wc tr (zd4 mc (zdP pt pm pl (zdK kt km kl (zdW L (zmx 191 (nI n).toInt64) n) 26) 676)))]) (rest := []) ⟨hx, hb, hml, hown, hts⟩ (zV 0 hP hD hK hE hB hS rfl rfl) (c_X4_digestOfHistory  (hco)) (cwV 1 hts gX4_digest_X4_digestOfHistory rfl rfl rfl hdv_X4_digestOfHistory ⟨Nat.le_of_ble_eq_true rfl, Nat.le_of_ble_eq_true rfl⟩) rfl rfl hl.1 rfl (lv_room (Nat.le_of_ble_eq_true rfl)) dX4_digest_22 ⟨Nat.le_of_ble_eq_true rfl, Nat.le_of_ble_eq_true rfl⟩) hS (fun H locs hP hD hS => ?_)
  have hP : va_P D vwCl (zWT cI cJ h (n, L) (kt, km, kl) (pt, pm, pl) (nu, le, ow, fo, run, wc, lc, tr, cl, tm, ms) (yl, yc, yt, co, pa, su, sc) mc ++ R) _ := hP
  have hD : va_D (zAb B) (zWT cI cJ h (n, L) (kt, km, kl) (pt, pm, pl) (nu, le, ow, fo, run, wc, lc, tr, cl, tm, ms) (yl, yc, yt, co, pa, su, sc) mc ++ R) := hD
  exact W.lret (v := (zmx (zdH yl yc yt (zmx (zdL run nu wc tr (zd4 mc (zdP pt pm pl (zdK kt km kl (zdW L (zmx 191 (nI n).toInt64) n) 26) 676))) (nI co).toInt64) co) pa.toInt64)) hx hb hr (fun t ht hW => ⟨⟨_, (), rfl, rfl, by rw [ht]; exact hP, hD⟩, hS.F ht⟩) hS.2.2 dX4_digest_25
